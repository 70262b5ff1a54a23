/-! the tables agree with the bytes and the words: the law -/
set_option maxRecDepth 20000 in
theorem am_rk194_7 : am_rt194_7.all (am_rok 194) = true := by decide +kernel
set_option maxRecDepth 20000 in
theorem am_rk194_8 : am_rt194_8.all (am_rok 194) = true := by decide +kernel
set_option maxRecDepth 20000 in
theorem am_rk194_9 : am_rt194_9.all (am_rok 194) = true := by decide +kernel
set_option maxRecDepth 20000 in
theorem am_rk194_10 : am_rt194_10.all (am_rok 194) = true := by decide +kernel
set_option maxRecDepth 20000 in
theorem am_rk194_11 : am_rt194_11.all (am_rok 194) = true := by decide +kernel
set_option maxRecDepth 20000 in
theorem am_rk194_12 : am_rt194_12.all (am_rok 194) = true := by decide +kernel
set_option maxRecDepth 20000 in
theorem am_rk194_13 : am_rt194_13.all (am_rok 194) = true := by decide +kernel
set_option maxRecDepth 20000 in
theorem am_rk194_14 : am_rt194_14.all (am_rok 194) = true := by decide +kernel
theorem am_rk194 : am_rt194.all (am_rok 194) = true := by
  unfold am_rt194
  simp only [List.all_append, am_rk194_0, am_rk194_1, am_rk194_2, am_rk194_3, am_rk194_4, am_rk194_5, am_rk194_6, am_rk194_7, am_rk194_8, am_rk194_9, am_rk194_10, am_rk194_11, am_rk194_12, am_rk194_13, am_rk194_14, Bool.and_self]
theorem am_rk (mi : Nat) : (am_rt mi).all (am_rok mi) = true := by
  match mi with
  | 0 => exact am_rk0
  | 1 => exact am_rk1
  | 2 => exact am_rk2
  | 3 => exact am_rk3
  | 4 => exact am_rk4
  | 5 => exact am_rk5
  | 6 => exact am_rk6
  | 7 => exact am_rk7
  | 8 => exact am_rk8
  | 9 => exact am_rk9
  | 10 => exact am_rk10
  | 11 => exact am_rk11
  | 12 => exact am_rk12
  | 13 => exact am_rk13
  | 14 => exact am_rk14
  | 15 => exact am_rk15
  | 16 => exact am_rk16
  | 17 => exact am_rk17
  | 18 => exact am_rk18
  | 19 => exact am_rk19
  | 20 => exact am_rk20
  | 21 => exact am_rk21
  | 22 => exact am_rk22
  | 23 => exact am_rk23
  | 24 => exact am_rk24
  | 25 => exact am_rk25
  | 26 => exact am_rk26
  | 27 => exact am_rk27
  | 28 => exact am_rk28
  | 29 => exact am_rk29
  | 30 => exact am_rk30
  | 31 => exact am_rk31
  | 32 => exact am_rk32
  | 33 => exact am_rk33
  | 34 => exact am_rk34
  | 35 => exact am_rk35
  | 36 => exact am_rk36
  | 37 => exact am_rk37
  | 38 => exact am_rk38
  | 39 => exact am_rk39
  | 40 => exact am_rk40
  | 41 => exact am_rk41
  | 42 => exact am_rk42
  | 43 => exact am_rk43
  | 44 => exact am_rk44
  | 45 => exact am_rk45
  | 46 => exact am_rk46
  | 47 => exact am_rk47
  | 48 => exact am_rk48
  | 49 => exact am_rk49
  | 50 => exact am_rk50
  | 51 => exact am_rk51
  | 52 => exact am_rk52
  | 53 => exact am_rk53
  | 54 => exact am_rk54
  | 55 => exact am_rk55
  | 56 => exact am_rk56
  | 57 => exact am_rk57
  | 58 => exact am_rk58
  | 59 => exact am_rk59
  | 60 => exact am_rk60
  | 61 => exact am_rk61
  | 62 => exact am_rk62
  | 63 => exact am_rk63
  | 64 => exact am_rk64
  | 65 => exact am_rk65
  | 66 => exact am_rk66
  | 67 => exact am_rk67
  | 68 => exact am_rk68
  | 69 => exact am_rk69
  | 70 => exact am_rk70
  | 71 => exact am_rk71
  | 72 => exact am_rk72
  | 73 => exact am_rk73
  | 74 => exact am_rk74
  | 75 => exact am_rk75
  | 76 => exact am_rk76
  | 77 => exact am_rk77
  | 78 => exact am_rk78
  | 79 => exact am_rk79
  | 80 => exact am_rk80
  | 81 => exact am_rk81
  | 82 => exact am_rk82
  | 83 => exact am_rk83
  | 84 => exact am_rk84
  | 85 => exact am_rk85
  | 86 => exact am_rk86
  | 87 => exact am_rk87
  | 88 => exact am_rk88
  | 89 => exact am_rk89
  | 90 => exact am_rk90
  | 91 => exact am_rk91
  | 92 => exact am_rk92
  | 93 => exact am_rk93
  | 94 => exact am_rk94
  | 95 => exact am_rk95
  | 96 => exact am_rk96
  | 97 => exact am_rk97
  | 98 => exact am_rk98
  | 99 => exact am_rk99
  | 100 => exact am_rk100
  | 101 => exact am_rk101
  | 102 => exact am_rk102
  | 103 => exact am_rk103
  | 104 => exact am_rk104
  | 105 => exact am_rk105
  | 106 => exact am_rk106
  | 107 => exact am_rk107
  | 108 => exact am_rk108
  | 109 => exact am_rk109
  | 110 => exact am_rk110
  | 111 => exact am_rk111
  | 112 => exact am_rk112
  | 113 => exact am_rk113
  | 114 => exact am_rk114
  | 115 => exact am_rk115
  | 116 => exact am_rk116
  | 117 => exact am_rk117
  | 118 => exact am_rk118
  | 119 => exact am_rk119
  | 120 => exact am_rk120
  | 121 => exact am_rk121
  | 122 => exact am_rk122
  | 123 => exact am_rk123
  | 124 => exact am_rk124
  | 125 => exact am_rk125
  | 126 => exact am_rk126
  | 127 => exact am_rk127
  | 128 => exact am_rk128
  | 129 => exact am_rk129
  | 130 => exact am_rk130
  | 131 => exact am_rk131
  | 132 => exact am_rk132
  | 133 => exact am_rk133
  | 134 => exact am_rk134
  | 135 => exact am_rk135
  | 136 => exact am_rk136
  | 137 => exact am_rk137
  | 138 => exact am_rk138
  | 139 => exact am_rk139
  | 140 => exact am_rk140
  | 141 => exact am_rk141
  | 142 => exact am_rk142
  | 143 => exact am_rk143
  | 144 => exact am_rk144
  | 145 => exact am_rk145
  | 146 => exact am_rk146
  | 147 => exact am_rk147
  | 148 => exact am_rk148
  | 149 => exact am_rk149
  | 150 => exact am_rk150
  | 151 => exact am_rk151
  | 152 => exact am_rk152
  | 153 => exact am_rk153
  | 154 => exact am_rk154
  | 155 => exact am_rk155
  | 156 => exact am_rk156
  | 157 => exact am_rk157
  | 158 => exact am_rk158
  | 159 => exact am_rk159
  | 160 => exact am_rk160
  | 161 => exact am_rk161
  | 162 => exact am_rk162
  | 163 => exact am_rk163
  | 164 => exact am_rk164
  | 165 => exact am_rk165
  | 166 => exact am_rk166
  | 167 => exact am_rk167
  | 168 => exact am_rk168
  | 169 => exact am_rk169
  | 170 => exact am_rk170
  | 171 => exact am_rk171
  | 172 => exact am_rk172
  | 173 => exact am_rk173
  | 174 => exact am_rk174
  | 175 => exact am_rk175
  | 176 => exact am_rk176
  | 177 => exact am_rk177
  | 178 => exact am_rk178
  | 179 => exact am_rk179
  | 180 => exact am_rk180
  | 181 => exact am_rk181
  | 182 => exact am_rk182
  | 183 => exact am_rk183
  | 184 => exact am_rk184
  | 185 => exact am_rk185
  | 186 => exact am_rk186
  | 187 => exact am_rk187
  | 188 => exact am_rk188
  | 189 => exact am_rk189
  | 190 => exact am_rk190
  | 191 => exact am_rk191
  | 192 => exact am_rk192
  | 193 => exact am_rk193
  | 194 => exact am_rk194
  | (n + 195) => rfl
