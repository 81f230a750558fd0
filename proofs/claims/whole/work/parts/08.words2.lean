theorem fl_X5_97 : FL RX5 97 4 0 := ⟨_, rfl, by decide, rfl, TW_of 793 (by decide +kernel) (by decide +kernel)⟩
theorem fl_X6_230 : FL RX6 230 4 0 := ⟨_, rfl, by decide, rfl, TW_of 794 (by decide +kernel) (by decide +kernel)⟩
theorem fl_X4_13 : FL RX4 13 4 1 := ⟨_, rfl, by decide, rfl, TW_of 795 (by decide +kernel) (by decide +kernel)⟩
theorem fl_X6_235 : FL RX6 235 4 1 := ⟨_, rfl, by decide, rfl, TW_of 796 (by decide +kernel) (by decide +kernel)⟩
theorem fl_X4_16 : FL RX4 16 4 2 := ⟨_, rfl, by decide, rfl, TW_of 797 (by decide +kernel) (by decide +kernel)⟩
theorem ml_X6_219 : Cond.methodLink RX6 219 yX5_addText ∈ TW := TW_of 806 (by decide +kernel) (by decide +kernel)
theorem ml_L_125 : Cond.methodLink RL 125 yX6_textTold ∈ TW := TW_of 810 (by decide +kernel) (by decide +kernel)
theorem ml_L_129 : Cond.methodLink RL 129 yX6_why ∈ TW := TW_of 814 (by decide +kernel) (by decide +kernel)
theorem ml_L_133 : Cond.methodLink RL 133 yX6_sheet ∈ TW := TW_of 818 (by decide +kernel) (by decide +kernel)
theorem ml_X6_241 : Cond.methodLink RX6 241 yX1_renew ∈ TW := TW_of 822 (by decide +kernel) (by decide +kernel)
theorem cn_X6_245 : Cond.constant RX6 245 (-1000000014) ∈ TW := TW_of 826 (by decide +kernel) (by decide +kernel)
theorem ml_L_137 : Cond.methodLink RL 137 yX6_mark ∈ TW := TW_of 827 (by decide +kernel) (by decide +kernel)
theorem ml_X6_246 : Cond.methodLink RX6 246 yX1_hasPlace ∈ TW := TW_of 831 (by decide +kernel) (by decide +kernel)
theorem cn_X6_249 : Cond.constant RX6 249 (-1000000013) ∈ TW := TW_of 832 (by decide +kernel) (by decide +kernel)
theorem cn_X6_250 : Cond.constant RX6 250 (-99999) ∈ TW := TW_of 833 (by decide +kernel) (by decide +kernel)
theorem cn_X6_251 : Cond.constant RX6 251 (99999) ∈ TW := TW_of 834 (by decide +kernel) (by decide +kernel)
theorem ml_L_141 : Cond.methodLink RL 141 yX6_pour ∈ TW := TW_of 835 (by decide +kernel) (by decide +kernel)
theorem ml_X6_258 : Cond.methodLink RX6 258 yX6_held ∈ TW := TW_of 839 (by decide +kernel) (by decide +kernel)
theorem ml_L_145 : Cond.methodLink RL 145 yX6_reads ∈ TW := TW_of 840 (by decide +kernel) (by decide +kernel)
theorem ml_L_149 : Cond.methodLink RL 149 yX6_copy ∈ TW := TW_of 844 (by decide +kernel) (by decide +kernel)
theorem ml_X6_264 : Cond.methodLink RX6 264 yX1_hasPlaces ∈ TW := TW_of 848 (by decide +kernel) (by decide +kernel)
theorem ml_X6_268 : Cond.methodLink RX6 268 arraycopyName ∈ TW := TW_of 852 (by decide +kernel) (by decide +kernel)
theorem ml_L_154 : Cond.methodLink RL 154 yX6_lay ∈ TW := TW_of 853 (by decide +kernel) (by decide +kernel)
theorem ml_X6_274 : Cond.methodLink RX6 274 yX6_isSlot ∈ TW := TW_of 857 (by decide +kernel) (by decide +kernel)
theorem ml_X6_284 : Cond.methodLink RX6 284 yX0_takeAfter ∈ TW := TW_of 860 (by decide +kernel) (by decide +kernel)
theorem ml_X6_291 : Cond.methodLink RX6 291 yX1_takeAfter ∈ TW := TW_of 861 (by decide +kernel) (by decide +kernel)
theorem ml_X1_22 : Cond.methodLink RX1 22 arraycopyName ∈ TW := TW_of 865 (by decide +kernel) (by decide +kernel)
theorem ml_L_158 : Cond.methodLink RL 158 yX6_ask ∈ TW := TW_of 866 (by decide +kernel) (by decide +kernel)
theorem ml_L_162 : Cond.methodLink RL 162 yX6_item ∈ TW := TW_of 870 (by decide +kernel) (by decide +kernel)
theorem ml_L_166 : Cond.methodLink RL 166 yX6_rest ∈ TW := TW_of 874 (by decide +kernel) (by decide +kernel)
theorem cn_X6_296 : Cond.constant RX6 296 (-1000000002) ∈ TW := TW_of 878 (by decide +kernel) (by decide +kernel)
theorem ml_L_170 : Cond.methodLink RL 170 yX6_tell ∈ TW := TW_of 879 (by decide +kernel) (by decide +kernel)
theorem ml_L_174 : Cond.methodLink RL 174 yX6_check ∈ TW := TW_of 883 (by decide +kernel) (by decide +kernel)
theorem ml_L_178 : Cond.methodLink RL 178 yX6_keep ∈ TW := TW_of 887 (by decide +kernel) (by decide +kernel)
theorem ml_L_182 : Cond.methodLink RL 182 yX6_back ∈ TW := TW_of 891 (by decide +kernel) (by decide +kernel)
theorem ml_L_186 : Cond.methodLink RL 186 yX6_count ∈ TW := TW_of 895 (by decide +kernel) (by decide +kernel)
theorem cl_L_10 : Cond.classLink RL 10 RX7 ∈ TW := TW_of 899 (by decide +kernel) (by decide +kernel)
theorem ml_L_12 : Cond.methodLink RL 12 yX7_init ∈ TW := TW_of 901 (by decide +kernel) (by decide +kernel)
theorem ml_X7_1 : Cond.methodLink RX7 1 Lib.objectInit ∈ TW := TW_of 904 (by decide +kernel) (by decide +kernel)
theorem fl_X7_9 : FL RX7 9 7 0 := ⟨_, rfl, by decide, rfl, TW_of 905 (by decide +kernel) (by decide +kernel)⟩
theorem fl_X7_13 : FL RX7 13 7 1 := ⟨_, rfl, by decide, rfl, TW_of 906 (by decide +kernel) (by decide +kernel)⟩
theorem fl_X7_16 : FL RX7 16 7 2 := ⟨_, rfl, by decide, rfl, TW_of 907 (by decide +kernel) (by decide +kernel)⟩
theorem fl_X7_276 : FL RX7 276 7 3 := ⟨_, rfl, by decide, rfl, TW_of 908 (by decide +kernel) (by decide +kernel)⟩
theorem fl_X7_19 : FL RX7 19 7 4 := ⟨_, rfl, by decide, rfl, TW_of 909 (by decide +kernel) (by decide +kernel)⟩
theorem fl_X7_22 : FL RX7 22 7 5 := ⟨_, rfl, by decide, rfl, TW_of 910 (by decide +kernel) (by decide +kernel)⟩
theorem fl_X7_25 : FL RX7 25 7 6 := ⟨_, rfl, by decide, rfl, TW_of 911 (by decide +kernel) (by decide +kernel)⟩
theorem fl_X7_194 : FL RX7 194 7 7 := ⟨_, rfl, by decide, rfl, TW_of 912 (by decide +kernel) (by decide +kernel)⟩
theorem fl_X7_198 : FL RX7 198 7 8 := ⟨_, rfl, by decide, rfl, TW_of 913 (by decide +kernel) (by decide +kernel)⟩
theorem fl_X7_201 : FL RX7 201 7 9 := ⟨_, rfl, by decide, rfl, TW_of 914 (by decide +kernel) (by decide +kernel)⟩
theorem fl_X7_207 : FL RX7 207 7 10 := ⟨_, rfl, by decide, rfl, TW_of 915 (by decide +kernel) (by decide +kernel)⟩
theorem fl_X7_213 : FL RX7 213 7 11 := ⟨_, rfl, by decide, rfl, TW_of 916 (by decide +kernel) (by decide +kernel)⟩
theorem fl_X7_204 : FL RX7 204 7 12 := ⟨_, rfl, by decide, rfl, TW_of 917 (by decide +kernel) (by decide +kernel)⟩
theorem fl_X7_219 : FL RX7 219 7 13 := ⟨_, rfl, by decide, rfl, TW_of 918 (by decide +kernel) (by decide +kernel)⟩
theorem fl_X7_28 : FL RX7 28 7 14 := ⟨_, rfl, by decide, rfl, TW_of 919 (by decide +kernel) (by decide +kernel)⟩
theorem fl_X7_32 : FL RX7 32 7 15 := ⟨_, rfl, by decide, rfl, TW_of 920 (by decide +kernel) (by decide +kernel)⟩
theorem fl_X7_35 : FL RX7 35 7 16 := ⟨_, rfl, by decide, rfl, TW_of 921 (by decide +kernel) (by decide +kernel)⟩
theorem fl_X7_231 : FL RX7 231 7 17 := ⟨_, rfl, by decide, rfl, TW_of 922 (by decide +kernel) (by decide +kernel)⟩
theorem fl_X7_237 : FL RX7 237 7 18 := ⟨_, rfl, by decide, rfl, TW_of 923 (by decide +kernel) (by decide +kernel)⟩
theorem fl_X7_38 : FL RX7 38 7 19 := ⟨_, rfl, by decide, rfl, TW_of 924 (by decide +kernel) (by decide +kernel)⟩
theorem fl_X7_225 : FL RX7 225 7 20 := ⟨_, rfl, by decide, rfl, TW_of 925 (by decide +kernel) (by decide +kernel)⟩
theorem fl_X7_41 : FL RX7 41 7 21 := ⟨_, rfl, by decide, rfl, TW_of 926 (by decide +kernel) (by decide +kernel)⟩
theorem fl_X7_45 : FL RX7 45 7 22 := ⟨_, rfl, by decide, rfl, TW_of 927 (by decide +kernel) (by decide +kernel)⟩
theorem fl_X7_48 : FL RX7 48 7 23 := ⟨_, rfl, by decide, rfl, TW_of 928 (by decide +kernel) (by decide +kernel)⟩
theorem fl_X7_51 : FL RX7 51 7 24 := ⟨_, rfl, by decide, rfl, TW_of 929 (by decide +kernel) (by decide +kernel)⟩
theorem fl_X7_54 : FL RX7 54 7 25 := ⟨_, rfl, by decide, rfl, TW_of 930 (by decide +kernel) (by decide +kernel)⟩
theorem fl_X7_57 : FL RX7 57 7 26 := ⟨_, rfl, by decide, rfl, TW_of 931 (by decide +kernel) (by decide +kernel)⟩
theorem fl_X7_60 : FL RX7 60 7 27 := ⟨_, rfl, by decide, rfl, TW_of 932 (by decide +kernel) (by decide +kernel)⟩
theorem fl_X7_63 : FL RX7 63 7 28 := ⟨_, rfl, by decide, rfl, TW_of 933 (by decide +kernel) (by decide +kernel)⟩
theorem fl_X7_66 : FL RX7 66 7 29 := ⟨_, rfl, by decide, rfl, TW_of 934 (by decide +kernel) (by decide +kernel)⟩
theorem fl_X7_69 : FL RX7 69 7 30 := ⟨_, rfl, by decide, rfl, TW_of 935 (by decide +kernel) (by decide +kernel)⟩
theorem fl_X7_72 : FL RX7 72 7 31 := ⟨_, rfl, by decide, rfl, TW_of 936 (by decide +kernel) (by decide +kernel)⟩
theorem fl_X7_75 : FL RX7 75 7 32 := ⟨_, rfl, by decide, rfl, TW_of 937 (by decide +kernel) (by decide +kernel)⟩
theorem fl_X7_273 : FL RX7 273 7 33 := ⟨_, rfl, by decide, rfl, TW_of 938 (by decide +kernel) (by decide +kernel)⟩
theorem ml_L_17 : Cond.methodLink RL 17 yX7_attic ∈ TW := TW_of 1010 (by decide +kernel) (by decide +kernel)
theorem ml_X7_78 : Cond.methodLink RX7 78 yX7_in ∈ TW := TW_of 1014 (by decide +kernel) (by decide +kernel)
theorem ml_X7_123 : Cond.methodLink RX7 123 yX7_isBearing ∈ TW := TW_of 1017 (by decide +kernel) (by decide +kernel)
theorem cn_X7_127 : Cond.constant RX7 127 (-1000000001) ∈ TW := TW_of 1020 (by decide +kernel) (by decide +kernel)
theorem cn_X7_128 : Cond.constant RX7 128 (-1000000003) ∈ TW := TW_of 1021 (by decide +kernel) (by decide +kernel)
theorem ml_X7_129 : Cond.methodLink RX7 129 yX7_comes ∈ TW := TW_of 1022 (by decide +kernel) (by decide +kernel)
theorem ml_X7_119 : Cond.methodLink RX7 119 yX7_put ∈ TW := TW_of 1026 (by decide +kernel) (by decide +kernel)
theorem ml_L_22 : Cond.methodLink RL 22 yX7_told ∈ TW := TW_of 1030 (by decide +kernel) (by decide +kernel)
theorem ml_X7_132 : Cond.methodLink RX7 132 yX7_isAttic ∈ TW := TW_of 1034 (by decide +kernel) (by decide +kernel)
theorem ml_X7_86 : Cond.methodLink RX7 86 yX7_of ∈ TW := TW_of 1038 (by decide +kernel) (by decide +kernel)
theorem ml_X7_93 : Cond.methodLink RX7 93 yX7_wideOf ∈ TW := TW_of 1042 (by decide +kernel) (by decide +kernel)
theorem ml_X7_90 : Cond.methodLink RX7 90 yX7_wideBy ∈ TW := TW_of 1046 (by decide +kernel) (by decide +kernel)
theorem ml_X7_82 : Cond.methodLink RX7 82 yX7_within ∈ TW := TW_of 1050 (by decide +kernel) (by decide +kernel)
theorem ml_X7_104 : Cond.methodLink RX7 104 yX7_sees ∈ TW := TW_of 1053 (by decide +kernel) (by decide +kernel)
theorem ml_X7_97 : Cond.methodLink RX7 97 yX7_standsAt ∈ TW := TW_of 1057 (by decide +kernel) (by decide +kernel)
theorem ml_X7_100 : Cond.methodLink RX7 100 yX7_isHidden ∈ TW := TW_of 1061 (by decide +kernel) (by decide +kernel)
theorem ml_X7_135 : Cond.methodLink RX7 135 yX7_rentOf ∈ TW := TW_of 1065 (by decide +kernel) (by decide +kernel)
theorem ml_X7_107 : Cond.methodLink RX7 107 yX7_counts ∈ TW := TW_of 1069 (by decide +kernel) (by decide +kernel)
theorem ml_X7_110 : Cond.methodLink RX7 110 yX7_pricesOf ∈ TW := TW_of 1073 (by decide +kernel) (by decide +kernel)
theorem ml_X7_113 : Cond.methodLink RX7 113 yX7_bits ∈ TW := TW_of 1077 (by decide +kernel) (by decide +kernel)
theorem ml_X7_116 : Cond.methodLink RX7 116 yX7_worksOut ∈ TW := TW_of 1080 (by decide +kernel) (by decide +kernel)
theorem ml_X7_259 : Cond.methodLink RX7 259 yX7_two ∈ TW := TW_of 1084 (by decide +kernel) (by decide +kernel)
theorem ml_L_26 : Cond.methodLink RL 26 yX7_as ∈ TW := TW_of 1087 (by decide +kernel) (by decide +kernel)
theorem ml_X7_138 : Cond.methodLink RX7 138 yX7_isUnder ∈ TW := TW_of 1091 (by decide +kernel) (by decide +kernel)
theorem cn_X7_141 : Cond.constant RX7 141 (-1000000012) ∈ TW := TW_of 1094 (by decide +kernel) (by decide +kernel)
theorem ml_L_30 : Cond.methodLink RL 30 yX7_turns ∈ TW := TW_of 1095 (by decide +kernel) (by decide +kernel)
theorem ml_X7_142 : Cond.methodLink RX7 142 yX7_swaps ∈ TW := TW_of 1099 (by decide +kernel) (by decide +kernel)
theorem ml_L_34 : Cond.methodLink RL 34 yX7_set ∈ TW := TW_of 1103 (by decide +kernel) (by decide +kernel)
theorem ml_L_38 : Cond.methodLink RL 38 yX7_star ∈ TW := TW_of 1107 (by decide +kernel) (by decide +kernel)
theorem ml_X7_145 : Cond.methodLink RX7 145 yX7_isStar ∈ TW := TW_of 1111 (by decide +kernel) (by decide +kernel)
theorem ml_L_42 : Cond.methodLink RL 42 yX7_starOf ∈ TW := TW_of 1114 (by decide +kernel) (by decide +kernel)
theorem ml_X7_148 : Cond.methodLink RX7 148 yX7_seers ∈ TW := TW_of 1118 (by decide +kernel) (by decide +kernel)
theorem ml_L_46 : Cond.methodLink RL 46 yX7_chimney ∈ TW := TW_of 1122 (by decide +kernel) (by decide +kernel)
theorem ml_L_51 : Cond.methodLink RL 51 yX7_smokes ∈ TW := TW_of 1126 (by decide +kernel) (by decide +kernel)
theorem ml_L_55 : Cond.methodLink RL 55 yX7_rule ∈ TW := TW_of 1130 (by decide +kernel) (by decide +kernel)
theorem ml_L_59 : Cond.methodLink RL 59 yX7_deal ∈ TW := TW_of 1134 (by decide +kernel) (by decide +kernel)
theorem ml_X7_152 : Cond.methodLink RX7 152 yX7_draw ∈ TW := TW_of 1138 (by decide +kernel) (by decide +kernel)
theorem cn_X7_151 : Cond.constant RX7 151 (1103515245) ∈ TW := TW_of 1142 (by decide +kernel) (by decide +kernel)
theorem ml_L_63 : Cond.methodLink RL 63 yX7_seed ∈ TW := TW_of 1143 (by decide +kernel) (by decide +kernel)
theorem ml_L_67 : Cond.methodLink RL 67 yX7_hours ∈ TW := TW_of 1147 (by decide +kernel) (by decide +kernel)
theorem ml_X7_163 : Cond.methodLink RX7 163 yX7_goesOn ∈ TW := TW_of 1151 (by decide +kernel) (by decide +kernel)
theorem ml_X7_160 : Cond.methodLink RX7 160 yX7_hour ∈ TW := TW_of 1155 (by decide +kernel) (by decide +kernel)
theorem ml_X7_156 : Cond.methodLink RX7 156 yX7_pays ∈ TW := TW_of 1159 (by decide +kernel) (by decide +kernel)
theorem ml_L_71 : Cond.methodLink RL 71 yX7_town ∈ TW := TW_of 1163 (by decide +kernel) (by decide +kernel)
theorem ml_X7_166 : Cond.methodLink RX7 166 yX7_sumOf ∈ TW := TW_of 1167 (by decide +kernel) (by decide +kernel)
theorem ml_X7_169 : Cond.methodLink RX7 169 yX7_dark ∈ TW := TW_of 1171 (by decide +kernel) (by decide +kernel)
theorem ml_L_75 : Cond.methodLink RL 75 yX7_cover ∈ TW := TW_of 1175 (by decide +kernel) (by decide +kernel)
theorem cn_X7_172 : Cond.constant RX7 172 (-1000000005) ∈ TW := TW_of 1179 (by decide +kernel) (by decide +kernel)
theorem ml_L_79 : Cond.methodLink RL 79 yX7_behind ∈ TW := TW_of 1180 (by decide +kernel) (by decide +kernel)
theorem ml_X7_177 : Cond.methodLink RX7 177 yX7_thinks ∈ TW := TW_of 1184 (by decide +kernel) (by decide +kernel)
theorem ml_X7_173 : Cond.methodLink RX7 173 yX7_copyAll ∈ TW := TW_of 1188 (by decide +kernel) (by decide +kernel)
theorem ml_X7_180 : Cond.methodLink RX7 180 yX7_putsBack ∈ TW := TW_of 1191 (by decide +kernel) (by decide +kernel)
theorem ml_L_83 : Cond.methodLink RL 83 yX7_debt ∈ TW := TW_of 1195 (by decide +kernel) (by decide +kernel)
theorem ml_L_87 : Cond.methodLink RL 87 yX7_rises ∈ TW := TW_of 1199 (by decide +kernel) (by decide +kernel)
theorem ml_L_91 : Cond.methodLink RL 91 yX7_turned ∈ TW := TW_of 1203 (by decide +kernel) (by decide +kernel)
theorem ml_X7_183 : Cond.methodLink RX7 183 yX7_mostBy ∈ TW := TW_of 1207 (by decide +kernel) (by decide +kernel)
theorem ml_L_99 : Cond.methodLink RL 99 yX7_becomes ∈ TW := TW_of 1211 (by decide +kernel) (by decide +kernel)
theorem ml_L_95 : Cond.methodLink RL 95 yX7_stands ∈ TW := TW_of 1215 (by decide +kernel) (by decide +kernel)
theorem ml_L_103 : Cond.methodLink RL 103 yX7_like ∈ TW := TW_of 1219 (by decide +kernel) (by decide +kernel)
theorem ml_X7_187 : Cond.methodLink RX7 187 yX7_isSheet ∈ TW := TW_of 1223 (by decide +kernel) (by decide +kernel)
theorem cn_X7_190 : Cond.constant RX7 190 (-1000000011) ∈ TW := TW_of 1226 (by decide +kernel) (by decide +kernel)
theorem ml_X7_191 : Cond.methodLink RX7 191 yX7_off ∈ TW := TW_of 1227 (by decide +kernel) (by decide +kernel)
theorem ml_L_108 : Cond.methodLink RL 108 yX7_fee ∈ TW := TW_of 1230 (by decide +kernel) (by decide +kernel)
theorem ml_L_112 : Cond.methodLink RL 112 yX7_fine ∈ TW := TW_of 1234 (by decide +kernel) (by decide +kernel)
theorem ml_L_116 : Cond.methodLink RL 116 yX7_feed ∈ TW := TW_of 1238 (by decide +kernel) (by decide +kernel)
theorem ml_L_120 : Cond.methodLink RL 120 yX7_trim ∈ TW := TW_of 1242 (by decide +kernel) (by decide +kernel)
theorem ml_L_124 : Cond.methodLink RL 124 yX7_text ∈ TW := TW_of 1246 (by decide +kernel) (by decide +kernel)
theorem ml_X7_222 : Cond.methodLink RX7 222 yX7_go ∈ TW := TW_of 1250 (by decide +kernel) (by decide +kernel)
theorem ml_X7_210 : Cond.methodLink RX7 210 yX7_isLetter ∈ TW := TW_of 1254 (by decide +kernel) (by decide +kernel)
theorem ml_X7_216 : Cond.methodLink RX7 216 yX7_isFigure ∈ TW := TW_of 1258 (by decide +kernel) (by decide +kernel)
theorem ml_X7_253 : Cond.methodLink RX7 253 yX7_takesKey ∈ TW := TW_of 1262 (by decide +kernel) (by decide +kernel)
theorem ml_X7_256 : Cond.methodLink RX7 256 yX7_takesE ∈ TW := TW_of 1266 (by decide +kernel) (by decide +kernel)
theorem ml_X7_243 : Cond.methodLink RX7 243 yX7_takesPart ∈ TW := TW_of 1270 (by decide +kernel) (by decide +kernel)
theorem ml_X7_234 : Cond.methodLink RX7 234 yX7_nameOf ∈ TW := TW_of 1274 (by decide +kernel) (by decide +kernel)
theorem ml_X7_240 : Cond.methodLink RX7 240 yX7_settle ∈ TW := TW_of 1278 (by decide +kernel) (by decide +kernel)
theorem ml_X7_228 : Cond.methodLink RX7 228 yX7_rank ∈ TW := TW_of 1282 (by decide +kernel) (by decide +kernel)
theorem ml_X7_247 : Cond.methodLink RX7 247 yX7_notsOpen ∈ TW := TW_of 1285 (by decide +kernel) (by decide +kernel)
theorem ml_X7_250 : Cond.methodLink RX7 250 yX7_signHere ∈ TW := TW_of 1289 (by decide +kernel) (by decide +kernel)
theorem ml_L_128 : Cond.methodLink RL 128 yX7_textTold ∈ TW := TW_of 1293 (by decide +kernel) (by decide +kernel)
theorem ml_L_132 : Cond.methodLink RL 132 yX7_why ∈ TW := TW_of 1297 (by decide +kernel) (by decide +kernel)
theorem ml_L_136 : Cond.methodLink RL 136 yX7_sheet ∈ TW := TW_of 1301 (by decide +kernel) (by decide +kernel)
theorem cn_X7_262 : Cond.constant RX7 262 (-1000000014) ∈ TW := TW_of 1305 (by decide +kernel) (by decide +kernel)
theorem ml_L_140 : Cond.methodLink RL 140 yX7_mark ∈ TW := TW_of 1306 (by decide +kernel) (by decide +kernel)
theorem cn_X7_263 : Cond.constant RX7 263 (-1000000013) ∈ TW := TW_of 1310 (by decide +kernel) (by decide +kernel)
theorem cn_X7_264 : Cond.constant RX7 264 (-99999) ∈ TW := TW_of 1311 (by decide +kernel) (by decide +kernel)
theorem cn_X7_265 : Cond.constant RX7 265 (99999) ∈ TW := TW_of 1312 (by decide +kernel) (by decide +kernel)
theorem ml_L_144 : Cond.methodLink RL 144 yX7_pour ∈ TW := TW_of 1313 (by decide +kernel) (by decide +kernel)
theorem ml_L_148 : Cond.methodLink RL 148 yX7_reads ∈ TW := TW_of 1317 (by decide +kernel) (by decide +kernel)
theorem ml_L_153 : Cond.methodLink RL 153 yX7_copy ∈ TW := TW_of 1321 (by decide +kernel) (by decide +kernel)
theorem ml_L_157 : Cond.methodLink RL 157 yX7_lay ∈ TW := TW_of 1325 (by decide +kernel) (by decide +kernel)
theorem ml_X7_266 : Cond.methodLink RX7 266 yX7_isSlot ∈ TW := TW_of 1329 (by decide +kernel) (by decide +kernel)
theorem ml_X7_269 : Cond.methodLink RX7 269 yX7_worthOf ∈ TW := TW_of 1332 (by decide +kernel) (by decide +kernel)
theorem ml_L_161 : Cond.methodLink RL 161 yX7_ask ∈ TW := TW_of 1336 (by decide +kernel) (by decide +kernel)
theorem ml_L_165 : Cond.methodLink RL 165 yX7_item ∈ TW := TW_of 1340 (by decide +kernel) (by decide +kernel)
theorem ml_L_169 : Cond.methodLink RL 169 yX7_rest ∈ TW := TW_of 1344 (by decide +kernel) (by decide +kernel)
theorem cn_X7_272 : Cond.constant RX7 272 (-1000000002) ∈ TW := TW_of 1348 (by decide +kernel) (by decide +kernel)
theorem ml_L_173 : Cond.methodLink RL 173 yX7_tell ∈ TW := TW_of 1349 (by decide +kernel) (by decide +kernel)
theorem ml_L_177 : Cond.methodLink RL 177 yX7_check ∈ TW := TW_of 1353 (by decide +kernel) (by decide +kernel)
theorem ml_L_181 : Cond.methodLink RL 181 yX7_keep ∈ TW := TW_of 1357 (by decide +kernel) (by decide +kernel)
theorem ml_L_185 : Cond.methodLink RL 185 yX7_back ∈ TW := TW_of 1361 (by decide +kernel) (by decide +kernel)
theorem ml_L_189 : Cond.methodLink RL 189 yX7_count ∈ TW := TW_of 1365 (by decide +kernel) (by decide +kernel)
theorem nl_X5_52 : Cond.methodLinkNest RX5 52 yX0_init RX6 ∈ nestW := List.mem_of_getElem? (i := 0) rfl
theorem nl_X6_24 : Cond.methodLinkNest RX6 24 yX3_init RX6 ∈ nestW := List.mem_of_getElem? (i := 1) rfl
theorem nl_X6_48 : Cond.methodLinkNest RX6 48 yX1_init RX6 ∈ nestW := List.mem_of_getElem? (i := 2) rfl
theorem nl_X6_49 : Cond.methodLinkNest RX6 49 yX2_init RX6 ∈ nestW := List.mem_of_getElem? (i := 3) rfl
theorem nl_X2_9 : Cond.methodLinkNest RX2 9 yX0_init RX6 ∈ nestW := List.mem_of_getElem? (i := 4) rfl
theorem nl_X2_18 : Cond.methodLinkNest RX2 18 yX1_init RX6 ∈ nestW := List.mem_of_getElem? (i := 5) rfl
theorem nl_X5_113 : Cond.methodLinkNest RX5 113 yX6_within RX6 ∈ nestW := List.mem_of_getElem? (i := 6) rfl
theorem nl_X5_169 : Cond.methodLinkNest RX5 169 yX6_held RX6 ∈ nestW := List.mem_of_getElem? (i := 7) rfl
theorem nl_X0_27 : Cond.methodLinkNest RX0 27 yX6_within RX6 ∈ nestW := List.mem_of_getElem? (i := 8) rfl
theorem nl_X0_31 : Cond.fieldLinkNest RX0 31 RX6 "KIND_ABOVE" "[I" RX6 ∈ nestW := List.mem_of_getElem? (i := 9) rfl
theorem nl_X1_28 : Cond.methodLinkNest RX1 28 yX6_within RX6 ∈ nestW := List.mem_of_getElem? (i := 10) rfl
theorem ft_0_0 : FT 0 0 false .int := fun q h => by cases h; exact ⟨rfl, by decide +kernel⟩
theorem ft_0_1 : FT 0 1 false .int := fun q h => by cases h; exact ⟨rfl, by decide +kernel⟩
theorem ft_0_2 : FT 0 2 false .int := fun q h => by cases h; exact ⟨rfl, by decide +kernel⟩
theorem ft_0_3 : FT 0 3 false .int := fun q h => by cases h; exact ⟨rfl, by decide +kernel⟩
theorem ft_0_4 : FT 0 4 false .int := fun q h => by cases h; exact ⟨rfl, by decide +kernel⟩
theorem ft_1_0 : FT 1 0 true (.array .int) := fun q h => by cases h; exact ⟨rfl, by decide +kernel⟩
theorem ft_1_1 : FT 1 1 false .int := fun q h => by cases h; exact ⟨rfl, by decide +kernel⟩
theorem ft_1_2 : FT 1 2 false .int := fun q h => by cases h; exact ⟨rfl, by decide +kernel⟩
theorem ft_2_0 : FT 2 0 false .int := fun q h => by cases h; exact ⟨rfl, by decide +kernel⟩
theorem ft_2_1 : FT 2 1 true (.object "AtticStars$Attic") := fun q h => by cases h; exact ⟨rfl, by decide +kernel⟩
theorem ft_2_2 : FT 2 2 true (.object "AtticStars$Sheet") := fun q h => by cases h; exact ⟨rfl, by decide +kernel⟩
theorem ft_2_3 : FT 2 3 false .int := fun q h => by cases h; exact ⟨rfl, by decide +kernel⟩
theorem ft_3_0 : FT 3 0 true (.array .int) := fun q h => by cases h; exact ⟨rfl, by decide +kernel⟩
theorem ft_3_1 : FT 3 1 false .int := fun q h => by cases h; exact ⟨rfl, by decide +kernel⟩
theorem ft_3_2 : FT 3 2 false .int := fun q h => by cases h; exact ⟨rfl, by decide +kernel⟩
theorem ft_3_3 : FT 3 3 false .int := fun q h => by cases h; exact ⟨rfl, by decide +kernel⟩
theorem ft_3_4 : FT 3 4 false .int := fun q h => by cases h; exact ⟨rfl, by decide +kernel⟩
theorem ft_3_5 : FT 3 5 false .int := fun q h => by cases h; exact ⟨rfl, by decide +kernel⟩
theorem ft_3_6 : FT 3 6 false .int := fun q h => by cases h; exact ⟨rfl, by decide +kernel⟩
theorem ft_3_7 : FT 3 7 false .int := fun q h => by cases h; exact ⟨rfl, by decide +kernel⟩
theorem ft_3_8 : FT 3 8 false .int := fun q h => by cases h; exact ⟨rfl, by decide +kernel⟩
theorem ft_3_9 : FT 3 9 true (.array .int) := fun q h => by cases h; exact ⟨rfl, by decide +kernel⟩
theorem ft_3_10 : FT 3 10 false .int := fun q h => by cases h; exact ⟨rfl, by decide +kernel⟩
theorem ft_4_0 : FT 4 0 true .int := fun q h => by cases h; exact ⟨rfl, by decide +kernel⟩
theorem ft_4_1 : FT 4 1 true .int := fun q h => by cases h; exact ⟨rfl, by decide +kernel⟩
theorem ft_4_2 : FT 4 2 true (.array .int) := fun q h => by cases h; exact ⟨rfl, by decide +kernel⟩
theorem ft_5_0 : FT 5 0 true (.array .int) := fun q h => by cases h; exact ⟨rfl, by decide +kernel⟩
theorem ft_5_1 : FT 5 1 true (.array .int) := fun q h => by cases h; exact ⟨rfl, by decide +kernel⟩
theorem ft_5_2 : FT 5 2 true (.array (.object "AtticStars$Attic")) := fun q h => by cases h; exact ⟨rfl, by decide +kernel⟩
theorem ft_5_3 : FT 5 3 false .int := fun q h => by cases h; exact ⟨rfl, by decide +kernel⟩
theorem ft_5_4 : FT 5 4 false .int := fun q h => by cases h; exact ⟨rfl, by decide +kernel⟩
theorem ft_5_5 : FT 5 5 false .int := fun q h => by cases h; exact ⟨rfl, by decide +kernel⟩
theorem ft_5_6 : FT 5 6 false .int := fun q h => by cases h; exact ⟨rfl, by decide +kernel⟩
theorem ft_5_7 : FT 5 7 false .int := fun q h => by cases h; exact ⟨rfl, by decide +kernel⟩
theorem ft_5_8 : FT 5 8 false .int := fun q h => by cases h; exact ⟨rfl, by decide +kernel⟩
theorem ft_5_9 : FT 5 9 false .int := fun q h => by cases h; exact ⟨rfl, by decide +kernel⟩
theorem ft_5_10 : FT 5 10 false .int := fun q h => by cases h; exact ⟨rfl, by decide +kernel⟩
theorem ft_5_11 : FT 5 11 false .int := fun q h => by cases h; exact ⟨rfl, by decide +kernel⟩
theorem ft_5_12 : FT 5 12 true (.array (.object "AtticStars$Text")) := fun q h => by cases h; exact ⟨rfl, by decide +kernel⟩
theorem ft_5_13 : FT 5 13 false .int := fun q h => by cases h; exact ⟨rfl, by decide +kernel⟩
theorem ft_5_14 : FT 5 14 true (.array .int) := fun q h => by cases h; exact ⟨rfl, by decide +kernel⟩
theorem ft_5_15 : FT 5 15 true (.array .int) := fun q h => by cases h; exact ⟨rfl, by decide +kernel⟩
theorem ft_5_16 : FT 5 16 true (.array .int) := fun q h => by cases h; exact ⟨rfl, by decide +kernel⟩
theorem ft_5_17 : FT 5 17 true (.array .int) := fun q h => by cases h; exact ⟨rfl, by decide +kernel⟩
theorem ft_6_0 : FT 6 0 true (.object "AtticStars$Town") := fun q h => by cases h; exact ⟨rfl, by decide +kernel⟩
theorem ft_6_1 : FT 6 1 true (.object "AtticStars$Town") := fun q h => by cases h; exact ⟨rfl, by decide +kernel⟩
theorem ft_6_2 : FT 6 2 true (.object "AtticStars$Town") := fun q h => by cases h; exact ⟨rfl, by decide +kernel⟩
theorem ft_6_3 : FT 6 3 false .boolean := fun q h => by cases h; exact ⟨rfl, by decide +kernel⟩
theorem ft_6_4 : FT 6 4 true (.object "AtticStars$Tape") := fun q h => by cases h; exact ⟨rfl, by decide +kernel⟩
theorem ft_6_5 : FT 6 5 true (.array (.object "AtticStars$Sheet")) := fun q h => by cases h; exact ⟨rfl, by decide +kernel⟩
theorem ft_6_6 : FT 6 6 true (.array (.object "AtticStars$Slot")) := fun q h => by cases h; exact ⟨rfl, by decide +kernel⟩
theorem ft_6_7 : FT 6 7 true (.array .int) := fun q h => by cases h; exact ⟨rfl, by decide +kernel⟩
theorem ft_6_8 : FT 6 8 false .int := fun q h => by cases h; exact ⟨rfl, by decide +kernel⟩
theorem ft_6_9 : FT 6 9 true (.array .int) := fun q h => by cases h; exact ⟨rfl, by decide +kernel⟩
theorem ft_7_0 : FT 7 0 true (.array .int) := fun q h => by cases h; exact ⟨rfl, by decide +kernel⟩
theorem ft_7_1 : FT 7 1 true (.array .int) := fun q h => by cases h; exact ⟨rfl, by decide +kernel⟩
theorem ft_7_2 : FT 7 2 true (.array .int) := fun q h => by cases h; exact ⟨rfl, by decide +kernel⟩
theorem ft_7_3 : FT 7 3 false .boolean := fun q h => by cases h; exact ⟨rfl, by decide +kernel⟩
theorem ft_7_4 : FT 7 4 true (.array .int) := fun q h => by cases h; exact ⟨rfl, by decide +kernel⟩
theorem ft_7_5 : FT 7 5 true (.array .int) := fun q h => by cases h; exact ⟨rfl, by decide +kernel⟩
theorem ft_7_6 : FT 7 6 true (.array .int) := fun q h => by cases h; exact ⟨rfl, by decide +kernel⟩
theorem ft_7_7 : FT 7 7 false .int := fun q h => by cases h; exact ⟨rfl, by decide +kernel⟩
theorem ft_7_8 : FT 7 8 false .int := fun q h => by cases h; exact ⟨rfl, by decide +kernel⟩
theorem ft_7_9 : FT 7 9 false .int := fun q h => by cases h; exact ⟨rfl, by decide +kernel⟩
