/-! the tables agree with the bytes and the words: the law -/
set_option maxRecDepth 20000 in
theorem am_rk182 : am_rt182.all (am_rok 182) = true := by decide +kernel
set_option maxRecDepth 20000 in
theorem am_rk183 : am_rt183.all (am_rok 183) = true := by decide +kernel
set_option maxRecDepth 20000 in
theorem am_rk184 : am_rt184.all (am_rok 184) = true := by decide +kernel
set_option maxRecDepth 20000 in
theorem am_rk185 : am_rt185.all (am_rok 185) = true := by decide +kernel
set_option maxRecDepth 20000 in
theorem am_rk186 : am_rt186.all (am_rok 186) = true := by decide +kernel
set_option maxRecDepth 20000 in
theorem am_rk187 : am_rt187.all (am_rok 187) = true := by decide +kernel
set_option maxRecDepth 20000 in
theorem am_rk188 : am_rt188.all (am_rok 188) = true := by decide +kernel
set_option maxRecDepth 20000 in
theorem am_rk189 : am_rt189.all (am_rok 189) = true := by decide +kernel
set_option maxRecDepth 20000 in
theorem am_rk190 : am_rt190.all (am_rok 190) = true := by decide +kernel
set_option maxRecDepth 20000 in
theorem am_rk191 : am_rt191.all (am_rok 191) = true := by decide +kernel
set_option maxRecDepth 20000 in
theorem am_rk192 : am_rt192.all (am_rok 192) = true := by decide +kernel
set_option maxRecDepth 20000 in
theorem am_rk193 : am_rt193.all (am_rok 193) = true := by decide +kernel
set_option maxRecDepth 20000 in
theorem am_rk194_0 : am_rt194_0.all (am_rok 194) = true := by decide +kernel
set_option maxRecDepth 20000 in
theorem am_rk194_1 : am_rt194_1.all (am_rok 194) = true := by decide +kernel
set_option maxRecDepth 20000 in
theorem am_rk194_2 : am_rt194_2.all (am_rok 194) = true := by decide +kernel
set_option maxRecDepth 20000 in
theorem am_rk194_3 : am_rt194_3.all (am_rok 194) = true := by decide +kernel
set_option maxRecDepth 20000 in
theorem am_rk194_4 : am_rt194_4.all (am_rok 194) = true := by decide +kernel
set_option maxRecDepth 20000 in
theorem am_rk194_5 : am_rt194_5.all (am_rok 194) = true := by decide +kernel
set_option maxRecDepth 20000 in
theorem am_rk194_6 : am_rt194_6.all (am_rok 194) = true := by decide +kernel
