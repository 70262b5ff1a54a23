/-! the tables agree with the bytes and the words -/
set_option maxRecDepth 20000 in
theorem am_rk0 : am_rt0.all (am_rok 0) = true := by decide +kernel
set_option maxRecDepth 20000 in
theorem am_rk1 : am_rt1.all (am_rok 1) = true := by decide +kernel
set_option maxRecDepth 20000 in
theorem am_rk2 : am_rt2.all (am_rok 2) = true := by decide +kernel
set_option maxRecDepth 20000 in
theorem am_rk3 : am_rt3.all (am_rok 3) = true := by decide +kernel
set_option maxRecDepth 20000 in
theorem am_rk4 : am_rt4.all (am_rok 4) = true := by decide +kernel
set_option maxRecDepth 20000 in
theorem am_rk5 : am_rt5.all (am_rok 5) = true := by decide +kernel
set_option maxRecDepth 20000 in
theorem am_rk6 : am_rt6.all (am_rok 6) = true := by decide +kernel
set_option maxRecDepth 20000 in
theorem am_rk7 : am_rt7.all (am_rok 7) = true := by decide +kernel
set_option maxRecDepth 20000 in
theorem am_rk8 : am_rt8.all (am_rok 8) = true := by decide +kernel
set_option maxRecDepth 20000 in
theorem am_rk9 : am_rt9.all (am_rok 9) = true := by decide +kernel
set_option maxRecDepth 20000 in
theorem am_rk10 : am_rt10.all (am_rok 10) = true := by decide +kernel
set_option maxRecDepth 20000 in
theorem am_rk11 : am_rt11.all (am_rok 11) = true := by decide +kernel
set_option maxRecDepth 20000 in
theorem am_rk12 : am_rt12.all (am_rok 12) = true := by decide +kernel
set_option maxRecDepth 20000 in
theorem am_rk13 : am_rt13.all (am_rok 13) = true := by decide +kernel
set_option maxRecDepth 20000 in
theorem am_rk14 : am_rt14.all (am_rok 14) = true := by decide +kernel
set_option maxRecDepth 20000 in
theorem am_rk15 : am_rt15.all (am_rok 15) = true := by decide +kernel
set_option maxRecDepth 20000 in
theorem am_rk16 : am_rt16.all (am_rok 16) = true := by decide +kernel
set_option maxRecDepth 20000 in
theorem am_rk17 : am_rt17.all (am_rok 17) = true := by decide +kernel
set_option maxRecDepth 20000 in
theorem am_rk18 : am_rt18.all (am_rok 18) = true := by decide +kernel
set_option maxRecDepth 20000 in
theorem am_rk19 : am_rt19.all (am_rok 19) = true := by decide +kernel
set_option maxRecDepth 20000 in
theorem am_rk20 : am_rt20.all (am_rok 20) = true := by decide +kernel
set_option maxRecDepth 20000 in
theorem am_rk21 : am_rt21.all (am_rok 21) = true := by decide +kernel
set_option maxRecDepth 20000 in
theorem am_rk22 : am_rt22.all (am_rok 22) = true := by decide +kernel
set_option maxRecDepth 20000 in
theorem am_rk23 : am_rt23.all (am_rok 23) = true := by decide +kernel
set_option maxRecDepth 20000 in
theorem am_rk24 : am_rt24.all (am_rok 24) = true := by decide +kernel
set_option maxRecDepth 20000 in
theorem am_rk25 : am_rt25.all (am_rok 25) = true := by decide +kernel
set_option maxRecDepth 20000 in
theorem am_rk26 : am_rt26.all (am_rok 26) = true := by decide +kernel
set_option maxRecDepth 20000 in
theorem am_rk27 : am_rt27.all (am_rok 27) = true := by decide +kernel
set_option maxRecDepth 20000 in
theorem am_rk28 : am_rt28.all (am_rok 28) = true := by decide +kernel
set_option maxRecDepth 20000 in
theorem am_rk29 : am_rt29.all (am_rok 29) = true := by decide +kernel
set_option maxRecDepth 20000 in
theorem am_rk30 : am_rt30.all (am_rok 30) = true := by decide +kernel
set_option maxRecDepth 20000 in
theorem am_rk31 : am_rt31.all (am_rok 31) = true := by decide +kernel
set_option maxRecDepth 20000 in
theorem am_rk32 : am_rt32.all (am_rok 32) = true := by decide +kernel
set_option maxRecDepth 20000 in
theorem am_rk33 : am_rt33.all (am_rok 33) = true := by decide +kernel
set_option maxRecDepth 20000 in
theorem am_rk34 : am_rt34.all (am_rok 34) = true := by decide +kernel
set_option maxRecDepth 20000 in
theorem am_rk35 : am_rt35.all (am_rok 35) = true := by decide +kernel
set_option maxRecDepth 20000 in
theorem am_rk36 : am_rt36.all (am_rok 36) = true := by decide +kernel
set_option maxRecDepth 20000 in
theorem am_rk37 : am_rt37.all (am_rok 37) = true := by decide +kernel
set_option maxRecDepth 20000 in
theorem am_rk38 : am_rt38.all (am_rok 38) = true := by decide +kernel
set_option maxRecDepth 20000 in
theorem am_rk39 : am_rt39.all (am_rok 39) = true := by decide +kernel
set_option maxRecDepth 20000 in
theorem am_rk40 : am_rt40.all (am_rok 40) = true := by decide +kernel
set_option maxRecDepth 20000 in
theorem am_rk41 : am_rt41.all (am_rok 41) = true := by decide +kernel
set_option maxRecDepth 20000 in
theorem am_rk42 : am_rt42.all (am_rok 42) = true := by decide +kernel
set_option maxRecDepth 20000 in
theorem am_rk43 : am_rt43.all (am_rok 43) = true := by decide +kernel
set_option maxRecDepth 20000 in
theorem am_rk44 : am_rt44.all (am_rok 44) = true := by decide +kernel
set_option maxRecDepth 20000 in
theorem am_rk45 : am_rt45.all (am_rok 45) = true := by decide +kernel
set_option maxRecDepth 20000 in
theorem am_rk46 : am_rt46.all (am_rok 46) = true := by decide +kernel
set_option maxRecDepth 20000 in
theorem am_rk47 : am_rt47.all (am_rok 47) = true := by decide +kernel
set_option maxRecDepth 20000 in
theorem am_rk48 : am_rt48.all (am_rok 48) = true := by decide +kernel
set_option maxRecDepth 20000 in
theorem am_rk49 : am_rt49.all (am_rok 49) = true := by decide +kernel
set_option maxRecDepth 20000 in
theorem am_rk50 : am_rt50.all (am_rok 50) = true := by decide +kernel
set_option maxRecDepth 20000 in
theorem am_rk51 : am_rt51.all (am_rok 51) = true := by decide +kernel
set_option maxRecDepth 20000 in
theorem am_rk52 : am_rt52.all (am_rok 52) = true := by decide +kernel
set_option maxRecDepth 20000 in
theorem am_rk53 : am_rt53.all (am_rok 53) = true := by decide +kernel
set_option maxRecDepth 20000 in
theorem am_rk54 : am_rt54.all (am_rok 54) = true := by decide +kernel
set_option maxRecDepth 20000 in
theorem am_rk55 : am_rt55.all (am_rok 55) = true := by decide +kernel
set_option maxRecDepth 20000 in
theorem am_rk56 : am_rt56.all (am_rok 56) = true := by decide +kernel
set_option maxRecDepth 20000 in
theorem am_rk57 : am_rt57.all (am_rok 57) = true := by decide +kernel
set_option maxRecDepth 20000 in
theorem am_rk58 : am_rt58.all (am_rok 58) = true := by decide +kernel
set_option maxRecDepth 20000 in
theorem am_rk59 : am_rt59.all (am_rok 59) = true := by decide +kernel
set_option maxRecDepth 20000 in
theorem am_rk60 : am_rt60.all (am_rok 60) = true := by decide +kernel
set_option maxRecDepth 20000 in
theorem am_rk61 : am_rt61.all (am_rok 61) = true := by decide +kernel
set_option maxRecDepth 20000 in
theorem am_rk62 : am_rt62.all (am_rok 62) = true := by decide +kernel
set_option maxRecDepth 20000 in
theorem am_rk63 : am_rt63.all (am_rok 63) = true := by decide +kernel
set_option maxRecDepth 20000 in
theorem am_rk64 : am_rt64.all (am_rok 64) = true := by decide +kernel
set_option maxRecDepth 20000 in
theorem am_rk65 : am_rt65.all (am_rok 65) = true := by decide +kernel
set_option maxRecDepth 20000 in
theorem am_rk66 : am_rt66.all (am_rok 66) = true := by decide +kernel
set_option maxRecDepth 20000 in
theorem am_rk67 : am_rt67.all (am_rok 67) = true := by decide +kernel
set_option maxRecDepth 20000 in
theorem am_rk68 : am_rt68.all (am_rok 68) = true := by decide +kernel
set_option maxRecDepth 20000 in
theorem am_rk69 : am_rt69.all (am_rok 69) = true := by decide +kernel
set_option maxRecDepth 20000 in
theorem am_rk70 : am_rt70.all (am_rok 70) = true := by decide +kernel
set_option maxRecDepth 20000 in
theorem am_rk71 : am_rt71.all (am_rok 71) = true := by decide +kernel
set_option maxRecDepth 20000 in
theorem am_rk72 : am_rt72.all (am_rok 72) = true := by decide +kernel
set_option maxRecDepth 20000 in
theorem am_rk73 : am_rt73.all (am_rok 73) = true := by decide +kernel
set_option maxRecDepth 20000 in
theorem am_rk74 : am_rt74.all (am_rok 74) = true := by decide +kernel
set_option maxRecDepth 20000 in
theorem am_rk75 : am_rt75.all (am_rok 75) = true := by decide +kernel
set_option maxRecDepth 20000 in
theorem am_rk76 : am_rt76.all (am_rok 76) = true := by decide +kernel
set_option maxRecDepth 20000 in
theorem am_rk77 : am_rt77.all (am_rok 77) = true := by decide +kernel
set_option maxRecDepth 20000 in
theorem am_rk78 : am_rt78.all (am_rok 78) = true := by decide +kernel
set_option maxRecDepth 20000 in
theorem am_rk79 : am_rt79.all (am_rok 79) = true := by decide +kernel
set_option maxRecDepth 20000 in
theorem am_rk80 : am_rt80.all (am_rok 80) = true := by decide +kernel
set_option maxRecDepth 20000 in
theorem am_rk81 : am_rt81.all (am_rok 81) = true := by decide +kernel
set_option maxRecDepth 20000 in
theorem am_rk82 : am_rt82.all (am_rok 82) = true := by decide +kernel
set_option maxRecDepth 20000 in
theorem am_rk83 : am_rt83.all (am_rok 83) = true := by decide +kernel
set_option maxRecDepth 20000 in
theorem am_rk84 : am_rt84.all (am_rok 84) = true := by decide +kernel
set_option maxRecDepth 20000 in
theorem am_rk85 : am_rt85.all (am_rok 85) = true := by decide +kernel
set_option maxRecDepth 20000 in
theorem am_rk86 : am_rt86.all (am_rok 86) = true := by decide +kernel
set_option maxRecDepth 20000 in
theorem am_rk87 : am_rt87.all (am_rok 87) = true := by decide +kernel
set_option maxRecDepth 20000 in
theorem am_rk88 : am_rt88.all (am_rok 88) = true := by decide +kernel
set_option maxRecDepth 20000 in
theorem am_rk89 : am_rt89.all (am_rok 89) = true := by decide +kernel
set_option maxRecDepth 20000 in
theorem am_rk90 : am_rt90.all (am_rok 90) = true := by decide +kernel
set_option maxRecDepth 20000 in
theorem am_rk91 : am_rt91.all (am_rok 91) = true := by decide +kernel
set_option maxRecDepth 20000 in
theorem am_rk92 : am_rt92.all (am_rok 92) = true := by decide +kernel
set_option maxRecDepth 20000 in
theorem am_rk93 : am_rt93.all (am_rok 93) = true := by decide +kernel
set_option maxRecDepth 20000 in
theorem am_rk94 : am_rt94.all (am_rok 94) = true := by decide +kernel
set_option maxRecDepth 20000 in
theorem am_rk95 : am_rt95.all (am_rok 95) = true := by decide +kernel
set_option maxRecDepth 20000 in
theorem am_rk96 : am_rt96.all (am_rok 96) = true := by decide +kernel
set_option maxRecDepth 20000 in
theorem am_rk97 : am_rt97.all (am_rok 97) = true := by decide +kernel
set_option maxRecDepth 20000 in
theorem am_rk98 : am_rt98.all (am_rok 98) = true := by decide +kernel
set_option maxRecDepth 20000 in
theorem am_rk99 : am_rt99.all (am_rok 99) = true := by decide +kernel
set_option maxRecDepth 20000 in
theorem am_rk100 : am_rt100.all (am_rok 100) = true := by decide +kernel
set_option maxRecDepth 20000 in
theorem am_rk101 : am_rt101.all (am_rok 101) = true := by decide +kernel
set_option maxRecDepth 20000 in
theorem am_rk102 : am_rt102.all (am_rok 102) = true := by decide +kernel
set_option maxRecDepth 20000 in
theorem am_rk103 : am_rt103.all (am_rok 103) = true := by decide +kernel
set_option maxRecDepth 20000 in
theorem am_rk104 : am_rt104.all (am_rok 104) = true := by decide +kernel
set_option maxRecDepth 20000 in
theorem am_rk105 : am_rt105.all (am_rok 105) = true := by decide +kernel
set_option maxRecDepth 20000 in
theorem am_rk106 : am_rt106.all (am_rok 106) = true := by decide +kernel
set_option maxRecDepth 20000 in
theorem am_rk107 : am_rt107.all (am_rok 107) = true := by decide +kernel
set_option maxRecDepth 20000 in
theorem am_rk108 : am_rt108.all (am_rok 108) = true := by decide +kernel
set_option maxRecDepth 20000 in
theorem am_rk109 : am_rt109.all (am_rok 109) = true := by decide +kernel
set_option maxRecDepth 20000 in
theorem am_rk110 : am_rt110.all (am_rok 110) = true := by decide +kernel
set_option maxRecDepth 20000 in
theorem am_rk111 : am_rt111.all (am_rok 111) = true := by decide +kernel
set_option maxRecDepth 20000 in
theorem am_rk112 : am_rt112.all (am_rok 112) = true := by decide +kernel
set_option maxRecDepth 20000 in
theorem am_rk113 : am_rt113.all (am_rok 113) = true := by decide +kernel
set_option maxRecDepth 20000 in
theorem am_rk114 : am_rt114.all (am_rok 114) = true := by decide +kernel
set_option maxRecDepth 20000 in
theorem am_rk115 : am_rt115.all (am_rok 115) = true := by decide +kernel
set_option maxRecDepth 20000 in
theorem am_rk116 : am_rt116.all (am_rok 116) = true := by decide +kernel
set_option maxRecDepth 20000 in
theorem am_rk117 : am_rt117.all (am_rok 117) = true := by decide +kernel
set_option maxRecDepth 20000 in
theorem am_rk118 : am_rt118.all (am_rok 118) = true := by decide +kernel
set_option maxRecDepth 20000 in
theorem am_rk119 : am_rt119.all (am_rok 119) = true := by decide +kernel
set_option maxRecDepth 20000 in
theorem am_rk120 : am_rt120.all (am_rok 120) = true := by decide +kernel
set_option maxRecDepth 20000 in
theorem am_rk121 : am_rt121.all (am_rok 121) = true := by decide +kernel
set_option maxRecDepth 20000 in
theorem am_rk122 : am_rt122.all (am_rok 122) = true := by decide +kernel
set_option maxRecDepth 20000 in
theorem am_rk123 : am_rt123.all (am_rok 123) = true := by decide +kernel
set_option maxRecDepth 20000 in
theorem am_rk124 : am_rt124.all (am_rok 124) = true := by decide +kernel
set_option maxRecDepth 20000 in
theorem am_rk125 : am_rt125.all (am_rok 125) = true := by decide +kernel
set_option maxRecDepth 20000 in
theorem am_rk126 : am_rt126.all (am_rok 126) = true := by decide +kernel
set_option maxRecDepth 20000 in
theorem am_rk127 : am_rt127.all (am_rok 127) = true := by decide +kernel
set_option maxRecDepth 20000 in
theorem am_rk128 : am_rt128.all (am_rok 128) = true := by decide +kernel
set_option maxRecDepth 20000 in
theorem am_rk129 : am_rt129.all (am_rok 129) = true := by decide +kernel
set_option maxRecDepth 20000 in
theorem am_rk130 : am_rt130.all (am_rok 130) = true := by decide +kernel
set_option maxRecDepth 20000 in
theorem am_rk131 : am_rt131.all (am_rok 131) = true := by decide +kernel
set_option maxRecDepth 20000 in
theorem am_rk132 : am_rt132.all (am_rok 132) = true := by decide +kernel
set_option maxRecDepth 20000 in
theorem am_rk133 : am_rt133.all (am_rok 133) = true := by decide +kernel
set_option maxRecDepth 20000 in
theorem am_rk134 : am_rt134.all (am_rok 134) = true := by decide +kernel
set_option maxRecDepth 20000 in
theorem am_rk135 : am_rt135.all (am_rok 135) = true := by decide +kernel
set_option maxRecDepth 20000 in
theorem am_rk136 : am_rt136.all (am_rok 136) = true := by decide +kernel
set_option maxRecDepth 20000 in
theorem am_rk137 : am_rt137.all (am_rok 137) = true := by decide +kernel
set_option maxRecDepth 20000 in
theorem am_rk138 : am_rt138.all (am_rok 138) = true := by decide +kernel
set_option maxRecDepth 20000 in
theorem am_rk139 : am_rt139.all (am_rok 139) = true := by decide +kernel
set_option maxRecDepth 20000 in
theorem am_rk140 : am_rt140.all (am_rok 140) = true := by decide +kernel
set_option maxRecDepth 20000 in
theorem am_rk141 : am_rt141.all (am_rok 141) = true := by decide +kernel
set_option maxRecDepth 20000 in
theorem am_rk142 : am_rt142.all (am_rok 142) = true := by decide +kernel
set_option maxRecDepth 20000 in
theorem am_rk143 : am_rt143.all (am_rok 143) = true := by decide +kernel
set_option maxRecDepth 20000 in
theorem am_rk144 : am_rt144.all (am_rok 144) = true := by decide +kernel
set_option maxRecDepth 20000 in
theorem am_rk145 : am_rt145.all (am_rok 145) = true := by decide +kernel
set_option maxRecDepth 20000 in
theorem am_rk146 : am_rt146.all (am_rok 146) = true := by decide +kernel
set_option maxRecDepth 20000 in
theorem am_rk147 : am_rt147.all (am_rok 147) = true := by decide +kernel
set_option maxRecDepth 20000 in
theorem am_rk148 : am_rt148.all (am_rok 148) = true := by decide +kernel
set_option maxRecDepth 20000 in
theorem am_rk149 : am_rt149.all (am_rok 149) = true := by decide +kernel
set_option maxRecDepth 20000 in
theorem am_rk150 : am_rt150.all (am_rok 150) = true := by decide +kernel
set_option maxRecDepth 20000 in
theorem am_rk151 : am_rt151.all (am_rok 151) = true := by decide +kernel
set_option maxRecDepth 20000 in
theorem am_rk152 : am_rt152.all (am_rok 152) = true := by decide +kernel
set_option maxRecDepth 20000 in
theorem am_rk153 : am_rt153.all (am_rok 153) = true := by decide +kernel
set_option maxRecDepth 20000 in
theorem am_rk154 : am_rt154.all (am_rok 154) = true := by decide +kernel
set_option maxRecDepth 20000 in
theorem am_rk155 : am_rt155.all (am_rok 155) = true := by decide +kernel
set_option maxRecDepth 20000 in
theorem am_rk156 : am_rt156.all (am_rok 156) = true := by decide +kernel
set_option maxRecDepth 20000 in
theorem am_rk157 : am_rt157.all (am_rok 157) = true := by decide +kernel
set_option maxRecDepth 20000 in
theorem am_rk158 : am_rt158.all (am_rok 158) = true := by decide +kernel
set_option maxRecDepth 20000 in
theorem am_rk159 : am_rt159.all (am_rok 159) = true := by decide +kernel
set_option maxRecDepth 20000 in
theorem am_rk160 : am_rt160.all (am_rok 160) = true := by decide +kernel
set_option maxRecDepth 20000 in
theorem am_rk161 : am_rt161.all (am_rok 161) = true := by decide +kernel
set_option maxRecDepth 20000 in
theorem am_rk162 : am_rt162.all (am_rok 162) = true := by decide +kernel
set_option maxRecDepth 20000 in
theorem am_rk163 : am_rt163.all (am_rok 163) = true := by decide +kernel
set_option maxRecDepth 20000 in
theorem am_rk164 : am_rt164.all (am_rok 164) = true := by decide +kernel
set_option maxRecDepth 20000 in
theorem am_rk165 : am_rt165.all (am_rok 165) = true := by decide +kernel
set_option maxRecDepth 20000 in
theorem am_rk166 : am_rt166.all (am_rok 166) = true := by decide +kernel
set_option maxRecDepth 20000 in
theorem am_rk167 : am_rt167.all (am_rok 167) = true := by decide +kernel
set_option maxRecDepth 20000 in
theorem am_rk168 : am_rt168.all (am_rok 168) = true := by decide +kernel
set_option maxRecDepth 20000 in
theorem am_rk169 : am_rt169.all (am_rok 169) = true := by decide +kernel
set_option maxRecDepth 20000 in
theorem am_rk170 : am_rt170.all (am_rok 170) = true := by decide +kernel
set_option maxRecDepth 20000 in
theorem am_rk171 : am_rt171.all (am_rok 171) = true := by decide +kernel
set_option maxRecDepth 20000 in
theorem am_rk172 : am_rt172.all (am_rok 172) = true := by decide +kernel
set_option maxRecDepth 20000 in
theorem am_rk173 : am_rt173.all (am_rok 173) = true := by decide +kernel
set_option maxRecDepth 20000 in
theorem am_rk174 : am_rt174.all (am_rok 174) = true := by decide +kernel
set_option maxRecDepth 20000 in
theorem am_rk175 : am_rt175.all (am_rok 175) = true := by decide +kernel
set_option maxRecDepth 20000 in
theorem am_rk176 : am_rt176.all (am_rok 176) = true := by decide +kernel
set_option maxRecDepth 20000 in
theorem am_rk177 : am_rt177.all (am_rok 177) = true := by decide +kernel
set_option maxRecDepth 20000 in
theorem am_rk178 : am_rt178.all (am_rok 178) = true := by decide +kernel
set_option maxRecDepth 20000 in
theorem am_rk179 : am_rt179.all (am_rok 179) = true := by decide +kernel
set_option maxRecDepth 20000 in
theorem am_rk180 : am_rt180.all (am_rok 180) = true := by decide +kernel
set_option maxRecDepth 20000 in
theorem am_rk181 : am_rt181.all (am_rok 181) = true := by decide +kernel
