def wp_0 : Nat → Nat := fun i => [0, 391, 0, 0, 0, 392, 0, 0, 0, 393, 0, 0, 0, 394, 0, 0, 395, 0, 0, 396, 0, 0, 397, 0].getD i 0
theorem ok_0 : okS 0 cd_0 wp_0 0 24 = true := by decide +kernel
theorem mo_0 : mOK 0 390 389 0 141 = true := by decide +kernel
def wp_1 : Nat → Nat := fun i => [0, 0, 397, 0, 0, 396, 0, 305, 0, 0, 0, 0, 397, 0, 0, 305, 396, 0, 0, 0, 1135, 0, 0, 0, 1135, 0, 0, 0, 1135, 0, 0, 0, 292, 0, 0, 1143, 1135, 0, 0, 0, 292, 0, 0, 1143, 1135, 0, 0, 0, 287, 0, 0, 1143, 1135, 0].getD i 0
theorem ok_1 : okS 1 cd_1 wp_1 0 64 = true := by decide +kernel
theorem mo_1 : mOK 1 1134 1132 1133 141 = true := by decide +kernel
def wp_2 : Nat → Nat := fun i => [0, 0, 0, 1135, 0, 0, 0, 1135, 0, 1148, 0].getD i 0
theorem ok_2 : okS 2 cd_2 wp_2 0 11 = true := by decide +kernel
theorem mo_2 : mOK 2 1147 1145 1146 141 = true := by decide +kernel
def wp_3 : Nat → Nat := fun i => [0, 0, 0, 0, 1176, 0, 0, 1135, 0, 0, 0, 0, 0, 1176, 0, 0, 1203, 1135, 0, 1148, 0].getD i 0
theorem ok_3 : okS 3 cd_3 wp_3 0 21 = true := by decide +kernel
theorem mo_3 : mOK 3 1602 1600 1601 141 = true := by decide +kernel
def wp_4 : Nat → Nat := fun i => [0, 396, 0, 1139, 0].getD i 0
theorem ok_4 : okS 4 cd_4 wp_4 0 5 = true := by decide +kernel
theorem mo_4 : mOK 4 1451 1449 1450 141 = true := by decide +kernel
def wp_5 : Nat → Nat := fun i => [0, 0, 0, 0, 392, 0, 0, 0, 392, 0, 0, 0, 0, 0].getD i 0
theorem ok_5 : okS 5 cd_5 wp_5 0 14 = true := by decide +kernel
theorem mo_5 : mOK 5 1179 1177 1178 141 = true := by decide +kernel
def wp_6 : Nat → Nat := fun i => [0, 0, 0, 0, 392, 0, 0, 0, 392, 0, 0, 0, 0, 0, 392, 0, 0, 0, 0, 0, 397, 0, 0, 396, 0, 1139, 0, 0, 0, 0, 397, 0].getD i 0
theorem ok_6 : okS 6 cd_6 wp_6 0 32 = true := by decide +kernel
theorem mo_6 : mOK 6 1138 1137 32 141 = true := by decide +kernel
def wp_7 : Nat → Nat := fun i => [0, 0, 0, 0, 393, 0, 0, 0, 393, 0, 0, 0, 0, 0].getD i 0
theorem ok_7 : okS 7 cd_7 wp_7 0 14 = true := by decide +kernel
theorem mo_7 : mOK 7 1194 1193 38 141 = true := by decide +kernel
def wp_8 : Nat → Nat := fun i => [0, 0, 1176, 0, 0, 1191, 0, 0, 0, 1191, 0, 0].getD i 0
theorem ok_8 : okS 8 cd_8 wp_8 0 12 = true := by decide +kernel
theorem mo_8 : mOK 8 1190 1188 1189 141 = true := by decide +kernel
def wp_9 : Nat → Nat := fun i => [0, 0, 0, 1176, 0, 0, 0, 1191, 0, 0, 0, 1191, 0, 0].getD i 0
theorem ok_9 : okS 9 cd_9 wp_9 0 14 = true := by decide +kernel
theorem mo_9 : mOK 9 1198 1196 1197 141 = true := by decide +kernel
def wp_10 : Nat → Nat := fun i => [0, 0, 0, 0, 1191, 1203, 0, 0, 1176, 0, 0, 0, 1204, 0].getD i 0
theorem ok_10 : okS 10 cd_10 wp_10 0 14 = true := by decide +kernel
theorem mo_10 : mOK 10 1202 1200 1201 141 = true := by decide +kernel
def wp_11 : Nat → Nat := fun i => [0, 0, 1191, 0].getD i 0
theorem ok_11 : okS 11 cd_11 wp_11 0 4 = true := by decide +kernel
theorem mo_11 : mOK 11 1208 1206 1207 141 = true := by decide +kernel
def wp_12 : Nat → Nat := fun i => [0, 397, 0, 0, 0, 0, 397, 0, 393, 0, 1152, 0, 396, 1155, 0, 0, 0, 0, 1156, 0, 0, 395, 0, 0, 0, 0, 396, 1160, 0, 0, 396, 0, 1164, 0, 0, 0, 0, 0, 0, 0, 0, 1168, 0, 0, 0].getD i 0
theorem ok_12 : okS 12 cd_12 wp_12 0 45 = true := by decide +kernel
theorem mo_12 : mOK 12 1151 1150 33 141 = true := by decide +kernel
def wp_13 : Nat → Nat := fun i => [0, 0, 0, 0, 1172, 0, 0, 0, 0, 0, 0, 0, 1176, 1172, 0, 0, 0, 0, 0, 0, 0, 1180, 0, 1172, 0, 0, 0, 0, 0, 1180, 0, 0, 0, 0, 0, 0, 0, 0, 1156, 0, 0, 1180, 0, 0, 0, 0, 1180, 0, 1184, 1172, 0].getD i 0
theorem ok_13 : okS 13 cd_13 wp_13 0 64 = true := by decide +kernel
theorem mo_13 : mOK 13 1171 1170 35 141 = true := by decide +kernel
def wp_14 : Nat → Nat := fun i => [0, 0, 0, 0, 0, 0, 0, 0, 0, 0, 0, 0, 0, 0, 0, 0, 0, 0, 0, 0, 0, 0, 0, 0, 0, 0, 0, 0].getD i 0
theorem ok_14 : okS 14 cd_14 wp_14 0 28 = true := by decide +kernel
theorem mo_14 : mOK 14 1186 1185 0 141 = true := by decide +kernel
def wp_15 : Nat → Nat := fun i => [0, 0, 0, 0, 393, 0, 0, 0, 393, 0, 0, 0, 0, 0, 0, 0].getD i 0
theorem ok_15 : okS 15 cd_15 wp_15 0 16 = true := by decide +kernel
theorem mo_15 : mOK 15 1159 1158 34 141 = true := by decide +kernel
def wp_16 : Nat → Nat := fun i => [0, 395, 0, 0, 395, 0, 394, 0, 0, 0, 394, 0, 395, 0, 0, 0, 0, 395, 0, 0, 395, 0].getD i 0
theorem ok_16 : okS 16 cd_16 wp_16 0 22 = true := by decide +kernel
theorem mo_16 : mOK 16 1175 1174 36 141 = true := by decide +kernel
def wp_17 : Nat → Nat := fun i => [0, 395, 0, 0, 395, 0, 394, 0, 0, 0, 0, 0, 0, 395, 0, 0, 395, 0, 394, 0, 395, 0, 0].getD i 0
theorem ok_17 : okS 17 cd_17 wp_17 0 23 = true := by decide +kernel
theorem mo_17 : mOK 17 1183 1182 37 141 = true := by decide +kernel
def wp_18 : Nat → Nat := fun i => [0, 219, 0, 0, 220, 0].getD i 0
theorem ok_18 : okS 18 cd_18 wp_18 0 6 = true := by decide +kernel
theorem mo_18 : mOK 18 218 217 0 135 = true := by decide +kernel
def wp_19 : Nat → Nat := fun i => [0, 220, 656, 0, 220, 690, 0, 0, 0, 0, 0, 0, 0, 0, 0, 0, 694, 0, 0, 0, 0, 220, 690, 0, 0, 0, 0, 220, 0, 820, 0, 0, 0, 0, 0, 0, 0].getD i 0
theorem ok_19 : okS 19 cd_19 wp_19 0 37 = true := by decide +kernel
theorem mo_19 : mOK 19 655 653 654 135 = true := by decide +kernel
def wp_20 : Nat → Nat := fun i => [0, 220, 698, 699, 0, 0, 0, 282, 751, 0, 0, 0, 282, 770, 0, 0, 0, 0, 0, 0, 220, 801, 699, 0, 0, 0, 288, 751, 0, 0, 0, 288, 802, 0, 0, 0, 0, 0, 0, 220, 811, 699, 0, 0, 0, 293, 751, 0, 0, 0, 293, 0, 0, 0, 774, 0, 0, 0, 0, 0, 0, 0, 812, 0].getD i 0
theorem ok_20 : okS 20 cd_20 wp_20 0 64 = true := by decide +kernel
theorem mo_20 : mOK 20 697 696 6 135 = true := by decide +kernel
def wp_21 : Nat → Nat := fun i => [0, 755, 0, 0, 0, 0, 0, 0, 0, 0, 220, 763, 0, 0].getD i 0
theorem ok_21 : okS 21 cd_21 wp_21 0 14 = true := by decide +kernel
theorem mo_21 : mOK 21 754 753 7 135 = true := by decide +kernel
def wp_22 : Nat → Nat := fun i => [0, 0, 0, 0, 0, 774, 0, 0, 0, 0, 0, 0, 774, 0, 0, 220, 798, 699, 0, 0, 0, 0, 0, 0, 774, 0, 0, 220, 799, 699, 0, 0, 0, 0, 0, 0, 774, 0, 0, 0, 0, 0, 0, 0, 0, 220, 800, 699, 0, 0, 0, 0, 790, 0, 0].getD i 0
theorem ok_22 : okS 22 cd_22 wp_22 0 64 = true := by decide +kernel
theorem mo_22 : mOK 22 773 772 8 135 = true := by decide +kernel
def wp_23 : Nat → Nat := fun i => [0, 0, 0, 0, 0, 774, 0, 0, 220, 806, 699, 0, 0, 0, 0, 0, 807, 0, 0, 0, 808, 0, 0, 0, 0, 0, 0, 0, 0, 0, 809, 774, 0, 0, 0, 0, 220, 810, 699, 0, 0, 0, 0, 790, 0, 0].getD i 0
theorem ok_23 : okS 23 cd_23 wp_23 0 46 = true := by decide +kernel
theorem mo_23 : mOK 23 805 804 12 135 = true := by decide +kernel
def wp_24 : Nat → Nat := fun i => [0, 220, 0, 0, 778, 0, 0, 0, 0, 0, 0, 0, 0, 790, 0, 0].getD i 0
theorem ok_24 : okS 24 cd_24 wp_24 0 16 = true := by decide +kernel
theorem mo_24 : mOK 24 777 776 9 135 = true := by decide +kernel
def wp_25 : Nat → Nat := fun i => (([[0, 0, 0, 220, 816, 699, 0, 0, 220, 0, 0, 778, 0, 0, 0, 310, 0, 0, 220, 817, 699, 0, 0, 220, 0, 0, 778, 0, 0, 0, 314, 0], [0, 220, 818, 699, 0, 0, 220, 0, 0, 778, 0, 0, 0, 317, 0, 0, 220, 819, 699, 0, 0, 220, 0, 0, 778, 0, 0, 0, 320, 0, 0, 0], [0, 0, 0]] : List (List Nat)).getD (i / 32) []).getD (i % 32) 0
theorem ok_25 : okS 25 cd_25 wp_25 0 96 = true := by decide +kernel
theorem mo_25 : mOK 25 815 814 13 135 = true := by decide +kernel
def wp_26 : Nat → Nat := fun i => [0, 251, 0].getD i 0
theorem ok_26 : okS 26 cd_26 wp_26 0 3 = true := by decide +kernel
theorem mo_26 : mOK 26 250 249 0 137 = true := by decide +kernel
def wp_27 : Nat → Nat := fun i => [0, 0, 252, 0, 0, 253, 0, 1673, 0, 0, 0, 0, 0, 0, 0, 0, 0, 1673, 0, 0, 0, 1674, 0, 0, 0, 0, 0, 1674, 0, 0, 0, 0, 0, 0, 0, 0, 0, 0, 0, 0, 0, 0, 0, 0, 0, 252, 0, 0, 0, 0, 252, 0, 0, 0, 253, 0, 0, 0, 0, 253, 0, 0, 0, 0].getD i 0
theorem ok_27 : okS 27 cd_27 wp_27 0 64 = true := by decide +kernel
theorem mo_27 : mOK 27 1672 1670 1671 137 = true := by decide +kernel
def wp_28 : Nat → Nat := fun i => [0, 252, 0, 253, 1684, 0].getD i 0
theorem ok_28 : okS 28 cd_28 wp_28 0 6 = true := by decide +kernel
theorem mo_28 : mOK 28 1683 1681 1682 137 = true := by decide +kernel
def wp_29 : Nat → Nat := fun i => [0, 0, 0, 0, 0, 0, 0, 0, 0, 0, 0, 0, 0, 0, 0, 0, 0, 1687, 0, 0, 0, 0, 0, 0, 0, 0, 0, 0, 0, 0, 0, 0, 0, 0, 0].getD i 0
theorem ok_29 : okS 29 cd_29 wp_29 0 35 = true := by decide +kernel
theorem mo_29 : mOK 29 1686 1685 0 137 = true := by decide +kernel
def wp_30 : Nat → Nat := fun i => [0, 0, 0, 0, 0, 0, 0, 0, 0, 0, 0, 0, 0, 0, 1690, 0, 0, 0, 0, 0, 0, 0, 0, 0, 0, 0].getD i 0
theorem ok_30 : okS 30 cd_30 wp_30 0 26 = true := by decide +kernel
theorem mo_30 : mOK 30 1689 1688 0 137 = true := by decide +kernel
def wp_31 : Nat → Nat := fun i => [0, 1680, 0, 0, 0, 0, 0, 0, 0, 0, 0, 0, 0, 0, 0, 0, 0, 0, 0, 0, 252, 0, 0, 0, 0, 0, 253, 1684, 0, 0, 0, 0, 0, 1691, 0, 0, 0, 0, 0, 0, 0, 0, 0, 0, 0, 0].getD i 0
theorem ok_31 : okS 31 cd_31 wp_31 0 46 = true := by decide +kernel
theorem mo_31 : mOK 31 1679 1677 1678 137 = true := by decide +kernel
def wp_32 : Nat → Nat := fun i => [0, 174, 0, 0, 175, 0, 0, 176, 0, 0, 177, 0].getD i 0
theorem ok_32 : okS 32 cd_32 wp_32 0 12 = true := by decide +kernel
theorem mo_32 : mOK 32 173 172 0 133 = true := by decide +kernel
def wp_33 : Nat → Nat := fun i => [0, 175, 0].getD i 0
theorem ok_33 : okS 33 cd_33 wp_33 0 3 = true := by decide +kernel
theorem mo_33 : mOK 33 558 556 557 133 = true := by decide +kernel
def wp_34 : Nat → Nat := fun i => [0, 176, 0, 0].getD i 0
theorem ok_34 : okS 34 cd_34 wp_34 0 4 = true := by decide +kernel
theorem mo_34 : mOK 34 1163 1161 1162 133 = true := by decide +kernel
def wp_35 : Nat → Nat := fun i => [0, 0, 0, 0, 176, 0, 0, 0, 176, 0, 0, 0, 0, 0].getD i 0
theorem ok_35 : okS 35 cd_35 wp_35 0 14 = true := by decide +kernel
theorem mo_35 : mOK 35 1167 1165 1166 133 = true := by decide +kernel
def wp_36 : Nat → Nat := fun i => [0, 177, 0, 0, 0, 0, 0, 0, 0, 0, 0, 0].getD i 0
theorem ok_36 : okS 36 cd_36 wp_36 0 12 = true := by decide +kernel
theorem mo_36 : mOK 36 1142 1140 1141 133 = true := by decide +kernel
def wp_37 : Nat → Nat := fun i => [0, 229, 0, 0, 230, 0, 0, 0, 231, 0].getD i 0
theorem ok_37 : okS 37 cd_37 wp_37 0 10 = true := by decide +kernel
theorem mo_37 : mOK 37 228 227 0 136 = true := by decide +kernel
def wp_38 : Nat → Nat := fun i => [0, 0, 232, 0, 231, 0, 993, 994, 0, 995, 0, 0, 233, 0, 231, 0, 996, 0, 234, 1008, 0].getD i 0
theorem ok_38 : okS 38 cd_38 wp_38 0 21 = true := by decide +kernel
theorem mo_38 : mOK 38 992 990 991 136 = true := by decide +kernel
def wp_39 : Nat → Nat := fun i => [0, 0, 232, 0, 0, 233, 0, 0, 234, 0, 230, 929, 0, 230, 930, 0, 0, 0, 0, 233, 0, 0, 0, 931, 0, 0, 0, 0, 0, 233, 0, 0, 233, 0, 230, 930, 0, 0, 0, 0, 230, 0, 962, 0, 0, 0, 0, 0].getD i 0
theorem ok_39 : okS 39 cd_39 wp_39 0 48 = true := by decide +kernel
theorem mo_39 : mOK 39 928 926 927 136 = true := by decide +kernel
def wp_40 : Nat → Nat := fun i => [0, 935, 0, 0, 0, 0, 0, 0, 230, 0, 0, 0, 0, 0, 0, 0, 946, 0, 0, 0, 0, 0, 0, 230, 947, 940, 0, 0, 0, 0, 948, 0, 0, 0, 952, 0, 0, 0, 0, 0, 0, 0, 0, 0, 0, 948, 0, 0].getD i 0
theorem ok_40 : okS 40 cd_40 wp_40 0 48 = true := by decide +kernel
theorem mo_40 : mOK 40 934 933 16 136 = true := by decide +kernel
def wp_41 : Nat → Nat := fun i => [0, 230, 939, 940, 0, 0, 0, 0, 230, 941, 940, 0, 0, 0, 0, 230, 942, 940, 0, 0, 0, 0, 230, 943, 940, 0, 0, 0, 0, 230, 944, 940, 0, 0, 0, 0, 230, 945, 940, 0, 0, 0, 0, 0].getD i 0
theorem ok_41 : okS 41 cd_41 wp_41 0 44 = true := by decide +kernel
theorem mo_41 : mOK 41 938 937 17 136 = true := by decide +kernel
def wp_42 : Nat → Nat := fun i => [0, 232, 0, 0, 232, 0, 231, 0, 0, 0, 231, 0, 232, 0, 0, 0, 0, 0, 0, 0, 0, 232, 0, 0, 232, 0].getD i 0
theorem ok_42 : okS 42 cd_42 wp_42 0 26 = true := by decide +kernel
theorem mo_42 : mOK 42 951 950 18 136 = true := by decide +kernel
def wp_43 : Nat → Nat := fun i => [0, 0, 0, 0, 231, 0, 0, 0, 0, 0, 0, 0, 0, 231, 0, 0, 0, 230, 956, 940, 0, 0, 0, 957, 0, 0, 0, 0, 0, 0, 983, 0, 0, 0, 0, 0, 983, 0, 230, 987, 940, 0, 0, 0, 0, 0, 0, 0].getD i 0
theorem ok_43 : okS 43 cd_43 wp_43 0 48 = true := by decide +kernel
theorem mo_43 : mOK 43 955 954 19 136 = true := by decide +kernel
def wp_44 : Nat → Nat := fun i => (([[0, 0, 0, 0, 230, 961, 940, 0, 0, 0, 0, 0, 957, 0, 0, 0, 0, 948, 0, 0, 0, 0, 0, 0, 230, 0, 962, 0, 0, 0, 0, 0], [952, 0, 0, 230, 0, 962, 0, 0, 0, 0, 0, 0, 230, 963, 940, 0, 0, 0, 964, 0, 0, 0, 968, 0, 0, 0, 0, 230, 0, 962, 0, 0], [0, 0, 230, 0, 962, 0, 0, 0, 0, 0, 0, 0, 0, 968, 0, 0, 0, 0, 0, 0, 948, 0, 0]] : List (List Nat)).getD (i / 32) []).getD (i % 32) 0
theorem ok_44 : okS 44 cd_44 wp_44 0 96 = true := by decide +kernel
theorem mo_44 : mOK 44 960 959 20 136 = true := by decide +kernel
def wp_45 : Nat → Nat := fun i => [0, 0, 0, 0, 231, 0, 0, 0, 230, 0, 0, 946, 0, 0, 0, 0, 972, 0, 0, 0, 0, 0, 0, 0, 0, 0, 0, 0, 0, 0, 0, 948, 0, 0, 0, 964, 0, 0, 0, 983, 0, 230, 0, 962, 0, 0, 0, 0, 0, 0, 0].getD i 0
theorem ok_45 : okS 45 cd_45 wp_45 0 64 = true := by decide +kernel
theorem mo_45 : mOK 45 971 970 22 136 = true := by decide +kernel
def wp_46 : Nat → Nat := fun i => [0, 0, 234, 0, 0, 0, 0, 234, 0, 0, 0, 948, 0].getD i 0
theorem ok_46 : okS 46 cd_46 wp_46 0 13 = true := by decide +kernel
theorem mo_46 : mOK 46 967 966 21 136 = true := by decide +kernel
def wp_47 : Nat → Nat := fun i => [0, 0, 0, 0, 0, 948, 0].getD i 0
theorem ok_47 : okS 47 cd_47 wp_47 0 7 = true := by decide +kernel
theorem mo_47 : mOK 47 986 985 24 136 = true := by decide +kernel
def wp_48 : Nat → Nat := fun i => [0, 230, 976, 940, 0, 0, 0, 0, 230, 977, 940, 0, 0, 0, 0, 230, 978, 940, 0, 0, 0, 0, 230, 979, 940, 0, 0, 0, 0, 230, 980, 940, 0, 0, 0, 0, 230, 981, 940, 0, 0, 0, 0, 230, 982, 940, 0, 0, 0, 0, 0].getD i 0
theorem ok_48 : okS 48 cd_48 wp_48 0 64 = true := by decide +kernel
theorem mo_48 : mOK 48 975 974 23 136 = true := by decide +kernel
def wp_49 : Nat → Nat := fun i => [0, 416, 0, 0, 0, 417, 0, 0, 0, 421, 0, 0, 0, 422, 0, 0, 0, 423, 0, 0, 0, 424, 0, 0, 425, 0, 0, 418, 0].getD i 0
theorem ok_49 : okS 49 cd_49 wp_49 0 29 = true := by decide +kernel
theorem mo_49 : mOK 49 415 414 0 142 = true := by decide +kernel
def wp_50 : Nat → Nat := fun i => [0, 0, 418, 0, 0, 418, 0].getD i 0
theorem ok_50 : okS 50 cd_50 wp_50 0 7 = true := by decide +kernel
theorem mo_50 : mOK 50 1130 1128 1129 142 = true := by decide +kernel
def wp_51 : Nat → Nat := fun i => (([[0, 421, 0, 1397, 0, 1398, 0, 0, 0, 0, 0, 0, 0, 0, 0, 0, 0, 0, 0, 425, 0, 0, 0, 1399, 0, 1400, 0, 1401, 0, 1402, 0, 1403], [0, 0, 0, 0, 419, 0, 0, 1399, 0, 0, 420, 0, 1400, 0, 0, 0, 0, 1399, 419, 0, 0, 1400, 420, 0, 1404, 0, 1401, 0, 0, 0, 0, 1402], [0, 0, 0, 0, 0, 0, 0, 0, 0, 0, 0, 0, 0, 0, 0, 0, 0, 0, 0, 0, 0, 0, 0, 0, 0, 1405, 0, 0, 0, 0, 0, 421], [0, 0, 0, 421, 0, 0, 0, 0, 0, 0, 0, 0, 0, 0, 0, 0]] : List (List Nat)).getD (i / 32) []).getD (i % 32) 0
theorem ok_51 : okS 51 cd_51 wp_51 0 128 = true := by decide +kernel
theorem mo_51 : mOK 51 1396 1394 1395 142 = true := by decide +kernel
def wp_52 : Nat → Nat := fun i => (([[0, 0, 0, 0, 0, 0, 0, 0, 0, 0, 0, 0, 0, 0, 0, 0, 0, 0, 0, 0, 0, 0, 0, 0, 0, 0, 0, 0, 0, 0, 0, 0], [417, 0, 0, 0, 0, 0, 1409, 0, 0, 417, 0, 0, 0, 0, 0, 418, 0, 0, 417, 0, 0, 418, 0, 0, 0, 0, 0, 1409, 0, 0, 0, 0], [0, 417, 0, 0, 0, 0, 0, 0, 0]] : List (List Nat)).getD (i / 32) []).getD (i % 32) 0
theorem ok_52 : okS 52 cd_52 wp_52 0 96 = true := by decide +kernel
theorem mo_52 : mOK 52 1408 1407 48 142 = true := by decide +kernel
def wp_53 : Nat → Nat := fun i => [0, 0, 0, 0, 421, 0, 0, 0, 421, 0, 0, 0, 0, 0].getD i 0
theorem ok_53 : okS 53 cd_53 wp_53 0 14 = true := by decide +kernel
theorem mo_53 : mOK 53 1417 1415 1416 142 = true := by decide +kernel
def wp_54 : Nat → Nat := fun i => [0, 0, 0, 0, 0, 0, 421, 0, 0, 0, 0, 421, 0, 0, 0, 0, 0, 0, 0, 0].getD i 0
theorem ok_54 : okS 54 cd_54 wp_54 0 20 = true := by decide +kernel
theorem mo_54 : mOK 54 1413 1411 1412 142 = true := by decide +kernel
def wp_55 : Nat → Nat := fun i => [0, 425, 0, 0, 0, 1431, 0, 0, 0, 425, 0, 0, 0, 0].getD i 0
theorem ok_55 : okS 55 cd_55 wp_55 0 14 = true := by decide +kernel
theorem mo_55 : mOK 55 1463 1461 1462 142 = true := by decide +kernel
def wp_56 : Nat → Nat := fun i => [0, 0, 0, 0, 0, 0, 283, 1429, 0, 0, 0, 283, 0, 0, 1430, 0, 0, 1431, 0, 0, 0, 0, 0, 0, 425, 0, 0, 0, 0, 0, 425, 0, 0, 0, 0].getD i 0
theorem ok_56 : okS 56 cd_56 wp_56 0 35 = true := by decide +kernel
theorem mo_56 : mOK 56 1428 1426 1427 142 = true := by decide +kernel
def wp_57 : Nat → Nat := fun i => [0, 422, 0, 1397, 0, 423, 0, 1397, 0, 424, 0, 1397, 0, 0, 426, 0, 0, 427, 0, 1448, 0, 0, 0, 0, 0, 0, 0, 0, 0, 0, 0, 0, 0, 0, 0, 0, 0, 0, 1452, 0, 0, 0, 1453, 0, 0, 0, 0, 0, 1454, 0, 0, 0, 0, 0].getD i 0
theorem ok_57 : okS 57 cd_57 wp_57 0 64 = true := by decide +kernel
theorem mo_57 : mOK 57 1447 1445 1446 142 = true := by decide +kernel
def wp_58 : Nat → Nat := fun i => (([[0, 0, 426, 0, 0, 1458, 1459, 426, 0, 0, 0, 0, 422, 0, 0, 0, 0, 1431, 0, 0, 0, 427, 0, 0, 0, 0, 427, 0, 0, 1460, 0, 422], [0, 0, 0, 0, 0, 423, 0, 0, 0, 0, 424, 0, 0, 0, 422, 0, 0, 0, 1460, 0, 0, 423, 0, 0, 0, 0, 424, 0, 0, 0, 0, 0], [0]] : List (List Nat)).getD (i / 32) []).getD (i % 32) 0
theorem ok_58 : okS 58 cd_58 wp_58 0 96 = true := by decide +kernel
theorem mo_58 : mOK 58 1457 1456 50 142 = true := by decide +kernel
def wp_59 : Nat → Nat := fun i => [0, 0, 0, 0, 422, 0, 0, 0, 0, 423, 0, 0, 0, 0, 424, 0, 0, 0, 0, 0, 0, 0, 422, 0, 0, 0, 0, 0, 0, 0, 423, 0, 0, 0, 0, 424, 0, 0, 0].getD i 0
theorem ok_59 : okS 59 cd_59 wp_59 0 39 = true := by decide +kernel
theorem mo_59 : mOK 59 1467 1465 1466 142 = true := by decide +kernel
def wp_60 : Nat → Nat := fun i => [0, 426, 0].getD i 0
theorem ok_60 : okS 60 cd_60 wp_60 0 3 = true := by decide +kernel
theorem mo_60 : mOK 60 1537 1535 1536 142 = true := by decide +kernel
def wp_61 : Nat → Nat := fun i => [0, 427, 0].getD i 0
theorem ok_61 : okS 61 cd_61 wp_61 0 3 = true := by decide +kernel
theorem mo_61 : mOK 61 1492 1490 1491 142 = true := by decide +kernel
def wp_62 : Nat → Nat := fun i => [0, 372, 0, 0, 373, 376, 0, 0, 0, 0, 376, 0, 0, 0, 376, 0, 373, 0, 0, 375, 0, 0, 0, 0, 0, 377, 0, 0, 378, 0].getD i 0
theorem ok_62 : okS 62 cd_62 wp_62 0 30 = true := by decide +kernel
theorem mo_62 : mOK 62 371 370 0 140 = true := by decide +kernel
def wp_63 : Nat → Nat := fun i => [0, 378, 0].getD i 0
theorem ok_63 : okS 63 cd_63 wp_63 0 3 = true := by decide +kernel
theorem mo_63 : mOK 63 575 573 574 140 = true := by decide +kernel
def wp_64 : Nat → Nat := fun i => [0, 377, 0, 0, 377, 0, 376, 0, 0, 0, 376, 0, 377, 0, 0, 0, 376, 0, 377, 0, 0, 584, 0, 0, 377, 0, 0, 0, 0, 377, 0, 0, 0, 378, 0, 0, 598, 378, 0].getD i 0
theorem ok_64 : okS 64 cd_64 wp_64 0 39 = true := by decide +kernel
theorem mo_64 : mOK 64 583 581 582 140 = true := by decide +kernel
def wp_65 : Nat → Nat := fun i => [0, 377, 0, 0, 0, 0, 0, 0, 0, 0, 378, 0, 0, 0, 0, 0, 376, 0, 0, 0, 376, 0, 0, 0, 0, 0, 0, 0, 376, 0, 0, 584, 0, 0, 377, 0, 0, 378, 0, 0, 378, 0, 0].getD i 0
theorem ok_65 : okS 65 cd_65 wp_65 0 43 = true := by decide +kernel
theorem mo_65 : mOK 65 629 627 628 140 = true := by decide +kernel
def wp_66 : Nat → Nat := fun i => [0, 0, 378, 0].getD i 0
theorem ok_66 : okS 66 cd_66 wp_66 0 4 = true := by decide +kernel
theorem mo_66 : mOK 66 642 640 641 140 = true := by decide +kernel
def wp_67 : Nat → Nat := fun i => [0, 456, 0, 0, 457, 0, 0, 458, 0, 0, 0, 459, 0, 0, 0, 460, 0, 0, 0, 461, 0].getD i 0
theorem ok_67 : okS 67 cd_67 wp_67 0 21 = true := by decide +kernel
theorem mo_67 : mOK 67 455 454 0 143 = true := by decide +kernel
def wp_68 : Nat → Nat := fun i => [0, 0, 0, 0, 459, 0, 0, 0, 459, 0, 0, 0, 1513, 0].getD i 0
theorem ok_68 : okS 68 cd_68 wp_68 0 14 = true := by decide +kernel
theorem mo_68 : mOK 68 1521 1520 54 143 = true := by decide +kernel
def wp_69 : Nat → Nat := fun i => [0, 0, 0, 0, 459, 0, 0, 0, 459, 0, 0, 0, 0].getD i 0
theorem ok_69 : okS 69 cd_69 wp_69 0 13 = true := by decide +kernel
theorem mo_69 : mOK 69 1512 1511 52 143 = true := by decide +kernel
def wp_70 : Nat → Nat := fun i => [0, 0, 0, 0, 460, 0, 0, 0, 460, 0, 0, 0, 0, 0].getD i 0
theorem ok_70 : okS 70 cd_70 wp_70 0 14 = true := by decide +kernel
theorem mo_70 : mOK 70 1517 1516 53 143 = true := by decide +kernel
def wp_71 : Nat → Nat := fun i => [0, 0, 0, 0, 0, 0, 0, 0, 0, 0, 457, 0, 0, 0, 0, 1479, 0, 458, 0, 0, 457, 1480, 0, 458, 0, 0, 1481, 0, 0, 0, 458, 0, 0, 1481, 0, 0, 0, 0, 0, 0, 0].getD i 0
theorem ok_71 : okS 71 cd_71 wp_71 0 41 = true := by decide +kernel
theorem mo_71 : mOK 71 1478 1476 1477 143 = true := by decide +kernel
def wp_72 : Nat → Nat := fun i => (([[0, 0, 0, 0, 0, 0, 0, 0, 0, 460, 0, 0, 0, 457, 0, 0, 0, 0, 1479, 0, 458, 0, 0, 457, 1480, 0, 460, 0, 0, 458, 1504, 0], [0, 0, 460, 0, 0, 0, 0, 0, 0, 0, 0, 1505, 0, 0, 1518, 0, 0, 0, 0, 0, 0, 0, 0, 0, 0, 0, 0, 0, 0, 0, 0, 0], [0, 0, 0, 0, 1523, 0]] : List (List Nat)).getD (i / 32) []).getD (i % 32) 0
theorem ok_72 : okS 72 cd_72 wp_72 0 96 = true := by decide +kernel
theorem mo_72 : mOK 72 1503 1501 1502 143 = true := by decide +kernel
def wp_73 : Nat → Nat := fun i => [0, 0, 0, 1509, 0, 0, 0, 0, 0, 1513, 0, 0, 0, 0, 0, 0, 0, 0, 0, 1514, 0, 0, 0, 0, 0, 0, 0, 0, 0, 0, 1518, 0, 0, 1522, 0, 0, 0, 0, 0, 0, 1509, 0, 0, 0].getD i 0
theorem ok_73 : okS 73 cd_73 wp_73 0 44 = true := by decide +kernel
theorem mo_73 : mOK 73 1508 1507 51 143 = true := by decide +kernel
def wp_74 : Nat → Nat := fun i => [0, 0, 0, 0, 0, 0, 0, 0, 0, 0, 0, 0, 1514, 0, 0, 0, 0, 0, 0, 0, 0, 0, 1518, 0, 0, 1518, 0, 0, 0, 0, 0, 0, 0, 0, 0, 0, 0, 0, 0].getD i 0
theorem ok_74 : okS 74 cd_74 wp_74 0 39 = true := by decide +kernel
theorem mo_74 : mOK 74 1526 1525 55 143 = true := by decide +kernel
def wp_75 : Nat → Nat := fun i => [0, 285, 0, 0, 1549, 0, 0, 0, 0, 0, 0, 0, 285, 0, 0, 0, 1550, 0, 458, 1551, 0, 458, 0, 0, 457, 1480, 0, 458, 0, 0, 1481, 0, 0, 0, 0, 0, 311, 0, 0, 0, 0, 0, 0, 0, 0, 0].getD i 0
theorem ok_75 : okS 75 cd_75 wp_75 0 46 = true := by decide +kernel
theorem mo_75 : mOK 75 1548 1546 1547 143 = true := by decide +kernel
def wp_76 : Nat → Nat := fun i => [0, 285, 1563, 0, 0, 285, 1564, 0, 0, 0, 0, 1509, 0, 0, 0, 0, 0, 0, 1513, 0, 0, 0, 0, 0, 0, 0, 0, 0, 0, 0, 0, 0, 0, 0, 0, 0, 1568, 1522, 0, 0, 0, 0, 0, 0, 1509, 0, 0, 0, 0, 0, 0, 0, 1518, 0, 0, 0, 0, 1578, 0].getD i 0
theorem ok_76 : okS 76 cd_76 wp_76 0 64 = true := by decide +kernel
theorem mo_76 : mOK 76 1562 1560 1561 143 = true := by decide +kernel
def wp_77 : Nat → Nat := fun i => [0, 1572, 0, 0, 458, 0, 0, 1481, 0, 285, 0, 0, 1549, 0, 0, 0, 0, 0, 0, 0, 1518, 0, 0].getD i 0
theorem ok_77 : okS 77 cd_77 wp_77 0 23 = true := by decide +kernel
theorem mo_77 : mOK 77 1571 1570 56 143 = true := by decide +kernel
def wp_78 : Nat → Nat := fun i => [0, 0, 0, 0, 0, 0, 0, 0, 0, 0, 1582, 0, 0, 0, 0, 0, 0, 0, 0, 0, 0, 0, 0, 0, 0, 0, 0].getD i 0
theorem ok_78 : okS 78 cd_78 wp_78 0 27 = true := by decide +kernel
theorem mo_78 : mOK 78 1581 1580 57 143 = true := by decide +kernel
def wp_79 : Nat → Nat := fun i => [0, 0, 0, 0, 285, 1563, 0, 0, 0, 0, 0, 0, 0, 0, 0, 0, 0, 1568, 0, 0, 1518, 0, 0, 0, 0, 0, 0, 0].getD i 0
theorem ok_79 : okS 79 cd_79 wp_79 0 28 = true := by decide +kernel
theorem mo_79 : mOK 79 1585 1584 58 143 = true := by decide +kernel
def wp_80 : Nat → Nat := fun i => [0, 0, 0, 0, 0, 0, 0, 0, 458, 0, 0, 457, 1597, 0, 0, 0, 458, 0, 1598, 0, 0, 0, 0, 0, 0, 0, 0, 457, 1599, 0, 0, 0, 0].getD i 0
theorem ok_80 : okS 80 cd_80 wp_80 0 33 = true := by decide +kernel
theorem mo_80 : mOK 80 1596 1594 1595 143 = true := by decide +kernel
def wp_81 : Nat → Nat := fun i => [0, 0, 0, 0, 0, 0, 0, 0, 0, 0, 0, 0, 458, 0, 0, 457, 1597, 0, 0, 0, 458, 0, 1614, 0, 0, 0, 0, 0, 0, 0, 0, 0, 311, 0, 0, 0, 0, 0, 0, 0, 0, 0, 0, 0, 0, 457, 1599, 0, 0, 0, 0, 0, 0, 0, 0].getD i 0
theorem ok_81 : okS 81 cd_81 wp_81 0 64 = true := by decide +kernel
theorem mo_81 : mOK 81 1613 1611 1612 143 = true := by decide +kernel
def wp_82 : Nat → Nat := fun i => [0, 0, 0, 290, 1564, 0, 462, 0, 0, 285, 1563, 463, 0, 0, 0, 0, 0, 0, 0, 1629, 0, 0, 457, 0, 0, 0, 0, 1479, 0, 458, 0, 0, 457, 1480, 0, 0, 0, 1633, 0, 0, 0].getD i 0
theorem ok_82 : okS 82 cd_82 wp_82 0 41 = true := by decide +kernel
theorem mo_82 : mOK 82 1628 1626 1627 143 = true := by decide +kernel
def wp_83 : Nat → Nat := fun i => [0, 0, 0, 0, 463, 0, 0, 0, 0, 0, 0, 0, 0, 0, 0, 0, 461, 0, 0, 0, 461, 0, 0, 458, 0, 0, 1481, 0, 285, 0, 0, 1549, 0, 0, 0, 0, 0].getD i 0
theorem ok_83 : okS 83 cd_83 wp_83 0 37 = true := by decide +kernel
theorem mo_83 : mOK 83 1636 1635 60 143 = true := by decide +kernel
def wp_84 : Nat → Nat := fun i => [0, 462, 0, 0, 0, 0, 0, 0, 0, 0, 0].getD i 0
theorem ok_84 : okS 84 cd_84 wp_84 0 11 = true := by decide +kernel
theorem mo_84 : mOK 84 1632 1631 59 143 = true := by decide +kernel
def wp_85 : Nat → Nat := fun i => [0, 0, 0, 0, 0, 0, 0, 0, 0, 0, 461, 0, 0, 0, 461, 0, 0, 0, 0, 0].getD i 0
theorem ok_85 : okS 85 cd_85 wp_85 0 20 = true := by decide +kernel
theorem mo_85 : mOK 85 1648 1647 62 143 = true := by decide +kernel
def wp_86 : Nat → Nat := fun i => [1513, 0, 0, 0, 0, 0, 0, 0, 0, 1629, 0, 0, 0, 0, 0, 1645, 1522, 0, 0, 0, 0, 0].getD i 0
theorem ok_86 : okS 86 cd_86 wp_86 0 22 = true := by decide +kernel
theorem mo_86 : mOK 86 1644 1643 61 143 = true := by decide +kernel
def wp_87 : Nat → Nat := fun i => [0, 0, 0, 0, 0, 0, 463, 0, 0, 0, 0, 0, 1645, 1649, 0, 0, 0, 0, 0].getD i 0
theorem ok_87 : okS 87 cd_87 wp_87 0 19 = true := by decide +kernel
theorem mo_87 : mOK 87 1657 1656 63 143 = true := by decide +kernel
def wp_88 : Nat → Nat := fun i => [0, 0, 0, 0, 0, 0, 463, 0, 0, 0, 0, 1641, 1649, 0, 0, 0, 0, 0].getD i 0
theorem ok_88 : okS 88 cd_88 wp_88 0 18 = true := by decide +kernel
theorem mo_88 : mOK 88 1640 1638 1639 143 = true := by decide +kernel
def wp_89 : Nat → Nat := fun i => [1513, 0, 0, 0, 0, 0, 0, 0, 0, 1629, 0, 0, 0, 0, 1654, 1522, 0, 0, 0, 0, 0].getD i 0
theorem ok_89 : okS 89 cd_89 wp_89 0 21 = true := by decide +kernel
theorem mo_89 : mOK 89 1653 1651 1652 143 = true := by decide +kernel
def wp_90 : Nat → Nat := fun i => [0, 0, 0, 0, 0, 0, 0, 0, 0, 0, 0, 1629, 0, 0, 0, 463, 0, 0, 0, 0, 1645, 0, 0, 0, 0, 1641, 0, 0, 0, 0, 1654, 0, 0, 0, 0, 0, 0, 0, 0].getD i 0
theorem ok_90 : okS 90 cd_90 wp_90 0 39 = true := by decide +kernel
theorem mo_90 : mOK 90 1661 1659 1660 143 = true := by decide +kernel
def wp_91 : Nat → Nat := fun i => [0, 270, 0, 0, 271, 0, 0, 272, 0, 0, 273, 0].getD i 0
theorem ok_91 : okS 91 cd_91 wp_91 0 12 = true := by decide +kernel
theorem mo_91 : mOK 91 269 268 0 139 = true := by decide +kernel
def wp_92 : Nat → Nat := fun i => [0, 273, 0].getD i 0
theorem ok_92 : okS 92 cd_92 wp_92 0 3 = true := by decide +kernel
theorem mo_92 : mOK 92 554 552 553 139 = true := by decide +kernel
def wp_93 : Nat → Nat := fun i => [0, 0, 0, 0, 273, 0, 0, 0, 0, 0].getD i 0
theorem ok_93 : okS 93 cd_93 wp_93 0 10 = true := by decide +kernel
theorem mo_93 : mOK 93 1025 1023 1024 139 = true := by decide +kernel
def wp_94 : Nat → Nat := fun i => [0, 273, 0, 0, 0, 272, 0, 0, 271, 0, 0, 0, 0, 0, 0].getD i 0
theorem ok_94 : okS 94 cd_94 wp_94 0 15 = true := by decide +kernel
theorem mo_94 : mOK 94 762 760 761 139 = true := by decide +kernel
