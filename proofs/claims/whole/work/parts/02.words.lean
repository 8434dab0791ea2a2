theorem wz_L : (Cond.initialized RL) ∈ GT := gt_t 0 rfl rfl
theorem wz_X3 : (Cond.initialized RX3) ∈ GT := gt_t 1 rfl rfl
theorem wz_X0 : (Cond.initialized RX0) ∈ GT := gt_t 2 rfl rfl
theorem wz_X1 : (Cond.initialized RX1) ∈ GT := gt_t 3 rfl rfl
theorem wz_X4 : (Cond.initialized RX4) ∈ GT := gt_t 4 rfl rfl
theorem wz_System : (Cond.initialized "java/lang/System") ∈ GT := gt_t 5 rfl rfl
theorem wz_X2 : (Cond.initialized RX2) ∈ GT := gt_t 6 rfl rfl
theorem wz_Math : (Cond.initialized "java/lang/Math") ∈ GT := gt_t 7 rfl rfl
theorem wl_L_7 : (Cond.classLink RL 7 RX3) ∈ GT := gt_t 8 rfl rfl
theorem wt_X3 : (Cond.instantiable RX3 12) ∈ GT := gt_t 9 rfl rfl
theorem wm_L_9 : (Cond.methodLink RL 9 yX3_init) ∈ GT := gt_t 10 rfl rfl
theorem wi_yX3_init : (Cond.instanceMethod yX3_init) ∈ GT := gt_t 11 rfl rfl
theorem wc_X3_init : (Cond.code yX3_init cX3_init 2 none) ∈ GT := gt_t 12 rfl rfl
theorem wm_X3_1 : (Cond.methodLink RX3 1 objectInit) ∈ GT := gt_t 13 rfl rfl
theorem wi_objectInit : (Cond.instanceMethod objectInit) ∈ GT := gt_t 14 rfl rfl
theorem wc_obj : (Cond.code objectInit ⟨#[0xb1]⟩ 1 none) ∈ GT := gt_t 15 rfl rfl
theorem wl_X3_7 : (Cond.classLink RX3 7 RX0) ∈ GT := gt_t 16 rfl rfl
theorem wt_X0 : (Cond.instantiable RX0 6) ∈ GT := gt_t 17 rfl rfl
theorem wm_X3_9 : (Cond.methodLink RX3 9 yX0_init) ∈ GT := gt_t 18 rfl rfl
theorem wi_yX0_init : (Cond.instanceMethod yX0_init) ∈ GT := gt_t 19 rfl rfl
theorem wc_X0_init : (Cond.code yX0_init cX0_init 1 none) ∈ GT := gt_t 20 rfl rfl
theorem wm_X0_3 : (Cond.methodLink RX0 3 objectInit) ∈ GT := gt_t 21 rfl rfl
theorem wf_X0_25 : (Cond.fieldLink RX0 25 "ScrollTown$Hash" "SQUARE_ROOTS" "[I") ∈ GT := gt_t 22 rfl rfl
theorem wf_X0_9 : (Cond.fieldLink RX0 9 "ScrollTown$Hash" "code" "[B") ∈ GT := gt_t 24 rfl rfl
theorem wf_X1_71 : (Cond.fieldLink RX1 71 "ScrollTown$Hash" "code" "[B") ∈ GT := gt_t 25 rfl rfl
theorem wf_X2_88 : (Cond.fieldLink RX2 88 "ScrollTown$Hash" "code" "[B") ∈ GT := gt_t 26 rfl rfl
theorem wf_X0_15 : (Cond.fieldLink RX0 15 "ScrollTown$Hash" "coin" "[B") ∈ GT := gt_t 27 rfl rfl
theorem wf_X1_90 : (Cond.fieldLink RX1 90 "ScrollTown$Hash" "coin" "[B") ∈ GT := gt_t 28 rfl rfl
theorem wf_X0_18 : (Cond.fieldLink RX0 18 "ScrollTown$Hash" "row" "[B") ∈ GT := gt_t 29 rfl rfl
theorem wf_X0_49 : (Cond.fieldLink RX0 49 "ScrollTown$Hash" "length" "I") ∈ GT := gt_t 30 rfl rfl
theorem wf_X0_21 : (Cond.fieldLink RX0 21 "ScrollTown$Hash" "words" "[I") ∈ GT := gt_t 31 rfl rfl
theorem wf_X0_28 : (Cond.fieldLink RX0 28 "ScrollTown$Hash" "sums" "[I") ∈ GT := gt_t 32 rfl rfl
theorem wa_byte : (Cond.arrayClass .byte) ∈ GT := gt_t 46 rfl rfl
theorem wa_int : (Cond.arrayClass .int) ∈ GT := gt_t 47 rfl rfl
theorem wl_X3_20 : (Cond.classLink RX3 20 RX2) ∈ GT := gt_t 48 rfl rfl
theorem wl_X3_26 : (Cond.classLink RX3 26 RX1) ∈ GT := gt_t 50 rfl rfl
theorem wt_X1 : (Cond.instantiable RX1 11) ∈ GT := gt_t 52 rfl rfl
theorem wm_X3_32 : (Cond.methodLink RX3 32 yX1_init) ∈ GT := gt_t 53 rfl rfl
theorem wi_yX1_init : (Cond.instanceMethod yX1_init) ∈ GT := gt_t 54 rfl rfl
theorem wc_X1_init : (Cond.code yX1_init cX1_init 2 none) ∈ GT := gt_t 55 rfl rfl
theorem wm_X1_3 : (Cond.methodLink RX1 3 objectInit) ∈ GT := gt_t 56 rfl rfl
theorem wf_X1_9 : (Cond.fieldLink RX1 9 "ScrollTown$Meter" "number" "I") ∈ GT := gt_t 57 rfl rfl
theorem wf_X3_223 : (Cond.fieldLink RX3 223 "ScrollTown$Meter" "number" "I") ∈ GT := gt_t 58 rfl rfl
theorem wf_X1_15 : (Cond.fieldLink RX1 15 "ScrollTown$Meter" "key" "[B") ∈ GT := gt_t 59 rfl rfl
theorem wf_X3_158 : (Cond.fieldLink RX3 158 "ScrollTown$Meter" "key" "[B") ∈ GT := gt_t 60 rfl rfl
theorem wf_X1_19 : (Cond.fieldLink RX1 19 "ScrollTown$Meter" "keyBefore" "[B") ∈ GT := gt_t 61 rfl rfl
theorem wf_X3_159 : (Cond.fieldLink RX3 159 "ScrollTown$Meter" "keyBefore" "[B") ∈ GT := gt_t 62 rfl rfl
theorem wf_X1_45 : (Cond.fieldLink RX1 45 "ScrollTown$Meter" "keys" "I") ∈ GT := gt_t 63 rfl rfl
theorem wf_X3_166 : (Cond.fieldLink RX3 166 "ScrollTown$Meter" "keys" "I") ∈ GT := gt_t 64 rfl rfl
theorem wf_X1_22 : (Cond.fieldLink RX1 22 "ScrollTown$Meter" "blocked" "[Z") ∈ GT := gt_t 65 rfl rfl
theorem wf_X3_230 : (Cond.fieldLink RX3 230 "ScrollTown$Meter" "blocked" "[Z") ∈ GT := gt_t 66 rfl rfl
theorem wf_X1_26 : (Cond.fieldLink RX1 26 "ScrollTown$Meter" "onList" "[Z") ∈ GT := gt_t 67 rfl rfl
theorem wf_X3_192 : (Cond.fieldLink RX3 192 "ScrollTown$Meter" "onList" "[Z") ∈ GT := gt_t 68 rfl rfl
theorem wf_X1_62 : (Cond.fieldLink RX1 62 "ScrollTown$Meter" "listed" "I") ∈ GT := gt_t 69 rfl rfl
theorem wf_X3_151 : (Cond.fieldLink RX3 151 "ScrollTown$Meter" "listed" "I") ∈ GT := gt_t 70 rfl rfl
theorem wf_X1_29 : (Cond.fieldLink RX1 29 "ScrollTown$Meter" "indexes" "[I") ∈ GT := gt_t 71 rfl rfl
theorem wf_X3_124 : (Cond.fieldLink RX3 124 "ScrollTown$Meter" "indexes" "[I") ∈ GT := gt_t 72 rfl rfl
theorem wf_X1_33 : (Cond.fieldLink RX1 33 "ScrollTown$Meter" "lastCoins" "[B") ∈ GT := gt_t 73 rfl rfl
theorem wf_X1_36 : (Cond.fieldLink RX1 36 "ScrollTown$Meter" "minutesOf" "[I") ∈ GT := gt_t 74 rfl rfl
theorem wf_X3_199 : (Cond.fieldLink RX3 199 "ScrollTown$Meter" "minutesOf" "[I") ∈ GT := gt_t 75 rfl rfl
theorem wf_X1_39 : (Cond.fieldLink RX1 39 "ScrollTown$Meter" "writes" "I") ∈ GT := gt_t 76 rfl rfl
theorem wf_X3_148 : (Cond.fieldLink RX3 148 "ScrollTown$Meter" "writes" "I") ∈ GT := gt_t 77 rfl rfl
theorem wa_long : (Cond.arrayClass .long) ∈ GT := gt_t 101 rfl rfl
theorem wa_boolean : (Cond.arrayClass .boolean) ∈ GT := gt_t 102 rfl rfl
theorem wf_X3_10 : (Cond.fieldLink RX3 10 "ScrollTown" "hash" "LScrollTown$Hash;") ∈ GT := gt_t 103 rfl rfl
theorem wf_X3_16 : (Cond.fieldLink RX3 16 "ScrollTown" "purses" "[J") ∈ GT := gt_t 104 rfl rfl
theorem wf_X3_22 : (Cond.fieldLink RX3 22 "ScrollTown" "scrolls" "[LScrollTown$Scroll;") ∈ GT := gt_t 105 rfl rfl
theorem wf_X3_28 : (Cond.fieldLink RX3 28 "ScrollTown" "meters" "[LScrollTown$Meter;") ∈ GT := gt_t 106 rfl rfl
theorem wf_X3_35 : (Cond.fieldLink RX3 35 "ScrollTown" "buffer" "[B") ∈ GT := gt_t 107 rfl rfl
theorem wf_X3_39 : (Cond.fieldLink RX3 39 "ScrollTown" "key" "[B") ∈ GT := gt_t 108 rfl rfl
theorem wf_X3_42 : (Cond.fieldLink RX3 42 "ScrollTown" "keyBefore" "[B") ∈ GT := gt_t 109 rfl rfl
theorem wf_X3_55 : (Cond.fieldLink RX3 55 "ScrollTown" "week" "I") ∈ GT := gt_t 110 rfl rfl
theorem wf_X3_59 : (Cond.fieldLink RX3 59 "ScrollTown" "day" "I") ∈ GT := gt_t 111 rfl rfl
theorem wf_X3_72 : (Cond.fieldLink RX3 72 "ScrollTown" "bought" "I") ∈ GT := gt_t 112 rfl rfl
theorem wf_X3_90 : (Cond.fieldLink RX3 90 "ScrollTown" "floatCents" "J") ∈ GT := gt_t 113 rfl rfl
theorem wf_X3_173 : (Cond.fieldLink RX3 173 "ScrollTown" "townCents" "J") ∈ GT := gt_t 114 rfl rfl
theorem wm_L_15 : (Cond.methodLink RL 15 yX3_newWeek) ∈ GT := gt_t 140 rfl rfl
theorem wi_yX3_newWeek : (Cond.instanceMethod yX3_newWeek) ∈ GT := gt_t 141 rfl rfl
theorem wv_X3_newWeek : (Cond.selects RX3 yX3_newWeek yX3_newWeek) ∈ GT := gt_t 142 rfl rfl
theorem wc_X3_newWeek : (Cond.code yX3_newWeek cX3_newWeek 5 (some .int)) ∈ GT := gt_t 143 rfl rfl
theorem wm_X3_45 : (Cond.methodLink RX3 45 arraycopyName) ∈ GT := gt_t 144 rfl rfl
theorem ws_arraycopyName : (Cond.static arraycopyName) ∈ GT := gt_t 145 rfl rfl
theorem wn_arraycopyName : (Cond.native arraycopyName) ∈ GT := gt_t 146 rfl rfl
theorem wm_X3_51 : (Cond.methodLink RX3 51 yX3_writeNumber) ∈ GT := gt_t 147 rfl rfl
theorem ws_yX3_writeNumber : (Cond.static yX3_writeNumber) ∈ GT := gt_t 148 rfl rfl
theorem wc_X3_writeNumber : (Cond.code yX3_writeNumber cX3_writeNumber 6 none) ∈ GT := gt_t 149 rfl rfl
theorem wm_L_20 : (Cond.methodLink RL 20 yX3_today) ∈ GT := gt_t 150 rfl rfl
theorem wi_yX3_today : (Cond.instanceMethod yX3_today) ∈ GT := gt_t 151 rfl rfl
theorem wv_X3_today : (Cond.selects RX3 yX3_today yX3_today) ∈ GT := gt_t 152 rfl rfl
theorem wc_X3_today : (Cond.code yX3_today cX3_today 3 (some .boolean)) ∈ GT := gt_t 153 rfl rfl
theorem wk_X3_62 : (Cond.constant RX3 62 (1000000 : Int32)) ∈ GT := gt_t 154 rfl rfl
theorem wm_X3_63 : (Cond.methodLink RX3 63 yX1_forgetMinutes) ∈ GT := gt_t 155 rfl rfl
theorem wi_yX1_forgetMinutes : (Cond.instanceMethod yX1_forgetMinutes) ∈ GT := gt_t 156 rfl rfl
theorem wv_X1_forgetMinutes : (Cond.selects RX1 yX1_forgetMinutes yX1_forgetMinutes) ∈ GT := gt_t 157 rfl rfl
theorem wc_X1_forgetMinutes : (Cond.code yX1_forgetMinutes cX1_forgetMinutes 2 none) ∈ GT := gt_t 158 rfl rfl
theorem wm_L_25 : (Cond.methodLink RL 25 yX3_money) ∈ GT := gt_t 159 rfl rfl
theorem wi_yX3_money : (Cond.instanceMethod yX3_money) ∈ GT := gt_t 160 rfl rfl
theorem wv_X3_money : (Cond.selects RX3 yX3_money yX3_money) ∈ GT := gt_t 161 rfl rfl
theorem wc_X3_money : (Cond.code yX3_money cX3_money 4 (some .boolean)) ∈ GT := gt_t 162 rfl rfl
theorem wm_X3_66 : (Cond.methodLink RX3 66 yX3_isMotorist) ∈ GT := gt_t 163 rfl rfl
theorem ws_yX3_isMotorist : (Cond.static yX3_isMotorist) ∈ GT := gt_t 164 rfl rfl
theorem wc_X3_isMotorist : (Cond.code yX3_isMotorist cX3_isMotorist 1 (some .boolean)) ∈ GT := gt_t 165 rfl rfl
theorem wm_X3_75 : (Cond.methodLink RX3 75 yX3_isWithin) ∈ GT := gt_t 166 rfl rfl
theorem ws_yX3_isWithin : (Cond.static yX3_isWithin) ∈ GT := gt_t 167 rfl rfl
theorem wc_X3_isWithin : (Cond.code yX3_isWithin cX3_isWithin 3 (some .boolean)) ∈ GT := gt_t 168 rfl rfl
theorem wk_X3_70 : (Cond.constantLong RX3 70 (1000000000 : Int64)) ∈ GT := gt_t 169 rfl rfl
theorem wm_L_30 : (Cond.methodLink RL 30 yX3_buy) ∈ GT := gt_t 170 rfl rfl
theorem wi_yX3_buy : (Cond.instanceMethod yX3_buy) ∈ GT := gt_t 171 rfl rfl
theorem wv_X3_buy : (Cond.selects RX3 yX3_buy yX3_buy) ∈ GT := gt_t 172 rfl rfl
theorem wc_X3_buy : (Cond.code yX3_buy cX3_buy 11 (some .int)) ∈ GT := gt_t 173 rfl rfl
theorem wt_X2 : (Cond.instantiable RX2 14) ∈ GT := gt_t 174 rfl rfl
theorem wm_X3_79 : (Cond.methodLink RX3 79 yX2_init) ∈ GT := gt_t 175 rfl rfl
theorem wi_yX2_init : (Cond.instanceMethod yX2_init) ∈ GT := gt_t 176 rfl rfl
theorem wc_X2_init : (Cond.code yX2_init cX2_init 7 none) ∈ GT := gt_t 177 rfl rfl
theorem wm_X2_3 : (Cond.methodLink RX2 3 objectInit) ∈ GT := gt_t 178 rfl rfl
theorem wf_X2_9 : (Cond.fieldLink RX2 9 "ScrollTown$Scroll" "number" "I") ∈ GT := gt_t 179 rfl rfl
theorem wf_X1_42 : (Cond.fieldLink RX1 42 "ScrollTown$Scroll" "number" "I") ∈ GT := gt_t 180 rfl rfl
theorem wf_X3_94 : (Cond.fieldLink RX3 94 "ScrollTown$Scroll" "number" "I") ∈ GT := gt_t 181 rfl rfl
theorem wf_X2_15 : (Cond.fieldLink RX2 15 "ScrollTown$Scroll" "owner" "I") ∈ GT := gt_t 182 rfl rfl
theorem wf_X3_244 : (Cond.fieldLink RX3 244 "ScrollTown$Scroll" "owner" "I") ∈ GT := gt_t 183 rfl rfl
theorem wf_X2_18 : (Cond.fieldLink RX2 18 "ScrollTown$Scroll" "n" "I") ∈ GT := gt_t 184 rfl rfl
theorem wf_X3_235 : (Cond.fieldLink RX3 235 "ScrollTown$Scroll" "n" "I") ∈ GT := gt_t 185 rfl rfl
theorem wf_X2_21 : (Cond.fieldLink RX2 21 "ScrollTown$Scroll" "cents" "I") ∈ GT := gt_t 186 rfl rfl
theorem wf_X1_107 : (Cond.fieldLink RX1 107 "ScrollTown$Scroll" "cents" "I") ∈ GT := gt_t 187 rfl rfl
theorem wf_X3_241 : (Cond.fieldLink RX3 241 "ScrollTown$Scroll" "cents" "I") ∈ GT := gt_t 188 rfl rfl
theorem wf_X2_24 : (Cond.fieldLink RX2 24 "ScrollTown$Scroll" "set" "I") ∈ GT := gt_t 189 rfl rfl
theorem wf_X2_27 : (Cond.fieldLink RX2 27 "ScrollTown$Scroll" "end" "I") ∈ GT := gt_t 190 rfl rfl
theorem wf_X3_180 : (Cond.fieldLink RX3 180 "ScrollTown$Scroll" "end" "I") ∈ GT := gt_t 191 rfl rfl
theorem wf_X2_30 : (Cond.fieldLink RX2 30 "ScrollTown$Scroll" "coins" "[B") ∈ GT := gt_t 192 rfl rfl
theorem wf_X3_131 : (Cond.fieldLink RX3 131 "ScrollTown$Scroll" "coins" "[B") ∈ GT := gt_t 193 rfl rfl
theorem wf_X2_34 : (Cond.fieldLink RX2 34 "ScrollTown$Scroll" "letter" "[B") ∈ GT := gt_t 194 rfl rfl
theorem wf_X1_48 : (Cond.fieldLink RX1 48 "ScrollTown$Scroll" "letter" "[B") ∈ GT := gt_t 195 rfl rfl
theorem wf_X3_145 : (Cond.fieldLink RX3 145 "ScrollTown$Scroll" "letter" "[B") ∈ GT := gt_t 196 rfl rfl
theorem wf_X2_37 : (Cond.fieldLink RX2 37 "ScrollTown$Scroll" "read" "[I") ∈ GT := gt_t 197 rfl rfl
theorem wf_X3_220 : (Cond.fieldLink RX3 220 "ScrollTown$Scroll" "read" "[I") ∈ GT := gt_t 198 rfl rfl
theorem wf_X2_41 : (Cond.fieldLink RX2 41 "ScrollTown$Scroll" "settled" "[I") ∈ GT := gt_t 199 rfl rfl
theorem wf_X2_97 : (Cond.fieldLink RX2 97 "ScrollTown$Scroll" "gone" "I") ∈ GT := gt_t 200 rfl rfl
set_option maxRecDepth 20000 in
theorem wf_X3_238 : (Cond.fieldLink RX3 238 "ScrollTown$Scroll" "gone" "I") ∈ GT := gt_t 201 rfl rfl
set_option maxRecDepth 20000 in
theorem wf_X2_106 : (Cond.fieldLink RX2 106 "ScrollTown$Scroll" "overspentCoins" "I") ∈ GT := gt_t 202 rfl rfl
set_option maxRecDepth 20000 in
theorem wf_X3_196 : (Cond.fieldLink RX3 196 "ScrollTown$Scroll" "overspentCoins" "I") ∈ GT := gt_t 203 rfl rfl
set_option maxRecDepth 20000 in
theorem wf_X2_109 : (Cond.fieldLink RX2 109 "ScrollTown$Scroll" "blocked" "Z") ∈ GT := gt_t 204 rfl rfl
set_option maxRecDepth 20000 in
theorem wf_X3_233 : (Cond.fieldLink RX3 233 "ScrollTown$Scroll" "blocked" "Z") ∈ GT := gt_t 205 rfl rfl
set_option maxRecDepth 20000 in
theorem wf_X3_176 : (Cond.fieldLink RX3 176 "ScrollTown$Scroll" "closed" "Z") ∈ GT := gt_t 206 rfl rfl
set_option maxRecDepth 20000 in
theorem wm_X3_82 : (Cond.methodLink RX3 82 yX2_mint) ∈ GT := gt_t 236 rfl rfl
set_option maxRecDepth 20000 in
theorem wi_yX2_mint : (Cond.instanceMethod yX2_mint) ∈ GT := gt_t 237 rfl rfl
set_option maxRecDepth 20000 in
theorem wv_X2_mint : (Cond.selects RX2 yX2_mint yX2_mint) ∈ GT := gt_t 238 rfl rfl
set_option maxRecDepth 20000 in
theorem wc_X2_mint : (Cond.code yX2_mint cX2_mint 5 none) ∈ GT := gt_t 239 rfl rfl
set_option maxRecDepth 20000 in
theorem wm_X2_48 : (Cond.methodLink RX2 48 yX0_begin) ∈ GT := gt_t 240 rfl rfl
set_option maxRecDepth 20000 in
theorem wi_yX0_begin : (Cond.instanceMethod yX0_begin) ∈ GT := gt_t 241 rfl rfl
set_option maxRecDepth 20000 in
theorem wv_X0_begin : (Cond.selects RX0 yX0_begin yX0_begin) ∈ GT := gt_t 242 rfl rfl
set_option maxRecDepth 20000 in
theorem wc_X0_begin : (Cond.code yX0_begin cX0_begin 1 none) ∈ GT := gt_t 243 rfl rfl
set_option maxRecDepth 20000 in
theorem wm_X2_53 : (Cond.methodLink RX2 53 yX0_addNumber) ∈ GT := gt_t 244 rfl rfl
set_option maxRecDepth 20000 in
theorem wi_yX0_addNumber : (Cond.instanceMethod yX0_addNumber) ∈ GT := gt_t 245 rfl rfl
set_option maxRecDepth 20000 in
theorem wv_X0_addNumber : (Cond.selects RX0 yX0_addNumber yX0_addNumber) ∈ GT := gt_t 246 rfl rfl
set_option maxRecDepth 20000 in
theorem wc_X0_addNumber : (Cond.code yX0_addNumber cX0_addNumber 4 none) ∈ GT := gt_t 247 rfl rfl
set_option maxRecDepth 20000 in
theorem wm_X2_57 : (Cond.methodLink RX2 57 yX2_coinAt) ∈ GT := gt_t 249 rfl rfl
set_option maxRecDepth 20000 in
theorem wi_yX2_coinAt : (Cond.instanceMethod yX2_coinAt) ∈ GT := gt_t 250 rfl rfl
set_option maxRecDepth 20000 in
theorem wv_X2_coinAt : (Cond.selects RX2 yX2_coinAt yX2_coinAt) ∈ GT := gt_t 251 rfl rfl
set_option maxRecDepth 20000 in
theorem wc_X2_coinAt : (Cond.code yX2_coinAt cX2_coinAt 2 (some .int)) ∈ GT := gt_t 252 rfl rfl
set_option maxRecDepth 20000 in
theorem wm_X2_61 : (Cond.methodLink RX2 61 yX0_finish) ∈ GT := gt_t 253 rfl rfl
set_option maxRecDepth 20000 in
theorem wi_yX0_finish : (Cond.instanceMethod yX0_finish) ∈ GT := gt_t 254 rfl rfl
set_option maxRecDepth 20000 in
theorem wv_X0_finish : (Cond.selects RX0 yX0_finish yX0_finish) ∈ GT := gt_t 255 rfl rfl
set_option maxRecDepth 20000 in
theorem wc_X0_finish : (Cond.code yX0_finish cX0_finish 6 none) ∈ GT := gt_t 256 rfl rfl
set_option maxRecDepth 20000 in
theorem wk_X0_63 : (Cond.constantLong RX0 63 (8 : Int64)) ∈ GT := gt_t 257 rfl rfl
set_option maxRecDepth 20000 in
theorem wm_X0_57 : (Cond.methodLink RX0 57 arraycopyName) ∈ GT := gt_t 258 rfl rfl
set_option maxRecDepth 20000 in
theorem wm_X0_65 : (Cond.methodLink RX0 65 yX0_spread) ∈ GT := gt_t 259 rfl rfl
set_option maxRecDepth 20000 in
theorem wi_yX0_spread : (Cond.instanceMethod yX0_spread) ∈ GT := gt_t 261 rfl rfl
set_option maxRecDepth 20000 in
theorem wc_X0_spread : (Cond.code yX0_spread cX0_spread 7 none) ∈ GT := gt_t 262 rfl rfl
set_option maxRecDepth 20000 in
theorem wm_X0_72 : (Cond.methodLink RX0 72 yX0_rot) ∈ GT := gt_t 263 rfl rfl
set_option maxRecDepth 20000 in
theorem ws_yX0_rot : (Cond.static yX0_rot) ∈ GT := gt_t 264 rfl rfl
set_option maxRecDepth 20000 in
theorem wc_X0_rot : (Cond.code yX0_rot cX0_rot 2 (some .int)) ∈ GT := gt_t 265 rfl rfl
set_option maxRecDepth 20000 in
theorem wm_X0_69 : (Cond.methodLink RX0 69 yX0_mix) ∈ GT := gt_t 266 rfl rfl
set_option maxRecDepth 20000 in
theorem wi_yX0_mix : (Cond.instanceMethod yX0_mix) ∈ GT := gt_t 268 rfl rfl
set_option maxRecDepth 20000 in
theorem wc_X0_mix : (Cond.code yX0_mix cX0_mix 12 none) ∈ GT := gt_t 269 rfl rfl
set_option maxRecDepth 20000 in
theorem wf_X0_76 : (Cond.fieldLink RX0 76 "ScrollTown$Hash" "CUBE_ROOTS" "[I") ∈ GT := gt_t 270 rfl rfl
set_option maxRecDepth 20000 in
theorem wm_X2_65 : (Cond.methodLink RX2 65 yX0_cut) ∈ GT := gt_t 272 rfl rfl
set_option maxRecDepth 20000 in
theorem wi_yX0_cut : (Cond.instanceMethod yX0_cut) ∈ GT := gt_t 273 rfl rfl
set_option maxRecDepth 20000 in
theorem wv_X0_cut : (Cond.selects RX0 yX0_cut yX0_cut) ∈ GT := gt_t 274 rfl rfl
set_option maxRecDepth 20000 in
theorem wc_X0_cut : (Cond.code yX0_cut cX0_cut 5 none) ∈ GT := gt_t 275 rfl rfl
set_option maxRecDepth 20000 in
theorem wm_X0_31 : (Cond.methodLink RX0 31 yX0_begin) ∈ GT := gt_t 276 rfl rfl
set_option maxRecDepth 20000 in
theorem wm_X0_34 : (Cond.methodLink RX0 34 yX0_addBytes) ∈ GT := gt_t 277 rfl rfl
set_option maxRecDepth 20000 in
theorem wi_yX0_addBytes : (Cond.instanceMethod yX0_addBytes) ∈ GT := gt_t 279 rfl rfl
set_option maxRecDepth 20000 in
theorem wc_X0_addBytes : (Cond.code yX0_addBytes cX0_addBytes 4 none) ∈ GT := gt_t 280 rfl rfl
set_option maxRecDepth 20000 in
theorem wm_X0_38 : (Cond.methodLink RX0 38 yX0_finish) ∈ GT := gt_t 281 rfl rfl
set_option maxRecDepth 20000 in
theorem wm_X3_86 : (Cond.methodLink RX3 86 yX2_write) ∈ GT := gt_t 282 rfl rfl
set_option maxRecDepth 20000 in
theorem wi_yX2_write : (Cond.instanceMethod yX2_write) ∈ GT := gt_t 283 rfl rfl
set_option maxRecDepth 20000 in
theorem wv_X2_write : (Cond.selects RX2 yX2_write yX2_write) ∈ GT := gt_t 284 rfl rfl
set_option maxRecDepth 20000 in
theorem wc_X2_write : (Cond.code yX2_write cX2_write 4 none) ∈ GT := gt_t 285 rfl rfl
set_option maxRecDepth 20000 in
theorem wm_X2_73 : (Cond.methodLink RX2 73 yX2_isFor) ∈ GT := gt_t 287 rfl rfl
set_option maxRecDepth 20000 in
theorem wi_yX2_isFor : (Cond.instanceMethod yX2_isFor) ∈ GT := gt_t 288 rfl rfl
set_option maxRecDepth 20000 in
theorem wv_X2_isFor : (Cond.selects RX2 yX2_isFor yX2_isFor) ∈ GT := gt_t 289 rfl rfl
set_option maxRecDepth 20000 in
theorem wc_X2_isFor : (Cond.code yX2_isFor cX2_isFor 2 (some .boolean)) ∈ GT := gt_t 290 rfl rfl
set_option maxRecDepth 20000 in
theorem wm_X2_77 : (Cond.methodLink RX2 77 yX2_headAt) ∈ GT := gt_t 291 rfl rfl
set_option maxRecDepth 20000 in
theorem wi_yX2_headAt : (Cond.instanceMethod yX2_headAt) ∈ GT := gt_t 292 rfl rfl
set_option maxRecDepth 20000 in
theorem wv_X2_headAt : (Cond.selects RX2 yX2_headAt yX2_headAt) ∈ GT := gt_t 293 rfl rfl
set_option maxRecDepth 20000 in
theorem wc_X2_headAt : (Cond.code yX2_headAt cX2_headAt 2 (some .int)) ∈ GT := gt_t 294 rfl rfl
set_option maxRecDepth 20000 in
theorem wm_X2_80 : (Cond.methodLink RX2 80 yX0_cutToHead) ∈ GT := gt_t 295 rfl rfl
set_option maxRecDepth 20000 in
theorem wi_yX0_cutToHead : (Cond.instanceMethod yX0_cutToHead) ∈ GT := gt_t 296 rfl rfl
set_option maxRecDepth 20000 in
theorem wv_X0_cutToHead : (Cond.selects RX0 yX0_cutToHead yX0_cutToHead) ∈ GT := gt_t 297 rfl rfl
set_option maxRecDepth 20000 in
theorem wc_X0_cutToHead : (Cond.code yX0_cutToHead cX0_cutToHead 6 none) ∈ GT := gt_t 298 rfl rfl
set_option maxRecDepth 20000 in
theorem wm_X0_41 : (Cond.methodLink RX0 41 yX0_addNumber) ∈ GT := gt_t 299 rfl rfl
set_option maxRecDepth 20000 in
theorem wm_X2_84 : (Cond.methodLink RX2 84 yX0_makeCode) ∈ GT := gt_t 300 rfl rfl
set_option maxRecDepth 20000 in
theorem wi_yX0_makeCode : (Cond.instanceMethod yX0_makeCode) ∈ GT := gt_t 301 rfl rfl
set_option maxRecDepth 20000 in
theorem wv_X0_makeCode : (Cond.selects RX0 yX0_makeCode yX0_makeCode) ∈ GT := gt_t 302 rfl rfl
set_option maxRecDepth 20000 in
theorem wc_X0_makeCode : (Cond.code yX0_makeCode cX0_makeCode 4 none) ∈ GT := gt_t 303 rfl rfl
set_option maxRecDepth 20000 in
theorem wm_X0_45 : (Cond.methodLink RX0 45 yX0_beginWithKey) ∈ GT := gt_t 304 rfl rfl
set_option maxRecDepth 20000 in
theorem wi_yX0_beginWithKey : (Cond.instanceMethod yX0_beginWithKey) ∈ GT := gt_t 306 rfl rfl
set_option maxRecDepth 20000 in
theorem wc_X0_beginWithKey : (Cond.code yX0_beginWithKey cX0_beginWithKey 4 none) ∈ GT := gt_t 307 rfl rfl
set_option maxRecDepth 20000 in
theorem wm_X2_91 : (Cond.methodLink RX2 91 arraycopyName) ∈ GT := gt_t 308 rfl rfl
set_option maxRecDepth 20000 in
theorem wm_L_35 : (Cond.methodLink RL 35 yX3_insert) ∈ GT := gt_t 309 rfl rfl
set_option maxRecDepth 20000 in
theorem wi_yX3_insert : (Cond.instanceMethod yX3_insert) ∈ GT := gt_t 310 rfl rfl
set_option maxRecDepth 20000 in
theorem wv_X3_insert : (Cond.selects RX3 yX3_insert yX3_insert) ∈ GT := gt_t 311 rfl rfl
set_option maxRecDepth 20000 in
theorem wc_X3_insert : (Cond.code yX3_insert cX3_insert 6 (some .int)) ∈ GT := gt_t 312 rfl rfl
set_option maxRecDepth 20000 in
theorem wm_X3_97 : (Cond.methodLink RX3 97 yX3_scrollOf) ∈ GT := gt_t 313 rfl rfl
set_option maxRecDepth 20000 in
theorem wi_yX3_scrollOf : (Cond.instanceMethod yX3_scrollOf) ∈ GT := gt_t 315 rfl rfl
set_option maxRecDepth 20000 in
theorem wc_X3_scrollOf : (Cond.code yX3_scrollOf cX3_scrollOf 2 (some (.object "ScrollTown$Scroll"))) ∈ GT := gt_t 316 rfl rfl
set_option maxRecDepth 20000 in
theorem wm_X3_101 : (Cond.methodLink RX3 101 yX3_meterOf) ∈ GT := gt_t 317 rfl rfl
set_option maxRecDepth 20000 in
theorem wi_yX3_meterOf : (Cond.instanceMethod yX3_meterOf) ∈ GT := gt_t 319 rfl rfl
set_option maxRecDepth 20000 in
theorem wc_X3_meterOf : (Cond.code yX3_meterOf cX3_meterOf 2 (some (.object "ScrollTown$Meter"))) ∈ GT := gt_t 320 rfl rfl
set_option maxRecDepth 20000 in
theorem wm_X3_105 : (Cond.methodLink RX3 105 yX1_refusal) ∈ GT := gt_t 321 rfl rfl
set_option maxRecDepth 20000 in
theorem wi_yX1_refusal : (Cond.instanceMethod yX1_refusal) ∈ GT := gt_t 322 rfl rfl
set_option maxRecDepth 20000 in
theorem wv_X1_refusal : (Cond.selects RX1 yX1_refusal yX1_refusal) ∈ GT := gt_t 323 rfl rfl
set_option maxRecDepth 20000 in
theorem wc_X1_refusal : (Cond.code yX1_refusal cX1_refusal 5 (some .int)) ∈ GT := gt_t 324 rfl rfl
set_option maxRecDepth 20000 in
theorem wm_X1_51 : (Cond.methodLink RX1 51 yX1_isCodeBy) ∈ GT := gt_t 325 rfl rfl
set_option maxRecDepth 20000 in
theorem wi_yX1_isCodeBy : (Cond.instanceMethod yX1_isCodeBy) ∈ GT := gt_t 327 rfl rfl
set_option maxRecDepth 20000 in
theorem wc_X1_isCodeBy : (Cond.code yX1_isCodeBy cX1_isCodeBy 4 (some .boolean)) ∈ GT := gt_t 328 rfl rfl
set_option maxRecDepth 20000 in
theorem wm_X1_65 : (Cond.methodLink RX1 65 yX0_makeCode) ∈ GT := gt_t 329 rfl rfl
set_option maxRecDepth 20000 in
theorem ws_yX3_sameBytes : (Cond.static yX3_sameBytes) ∈ GT := gt_t 331 rfl rfl
set_option maxRecDepth 20000 in
theorem wc_X3_sameBytes : (Cond.code yX3_sameBytes cX3_sameBytes 6 (some .boolean)) ∈ GT := gt_t 332 rfl rfl
set_option maxRecDepth 20000 in
theorem wm_X1_55 : (Cond.methodLink RX1 55 yX2_isFor) ∈ GT := gt_t 333 rfl rfl
set_option maxRecDepth 20000 in
theorem wm_X1_59 : (Cond.methodLink RX1 59 yX2_isOver) ∈ GT := gt_t 334 rfl rfl
set_option maxRecDepth 20000 in
theorem wi_yX2_isOver : (Cond.instanceMethod yX2_isOver) ∈ GT := gt_t 335 rfl rfl
set_option maxRecDepth 20000 in
theorem wv_X2_isOver : (Cond.selects RX2 yX2_isOver yX2_isOver) ∈ GT := gt_t 336 rfl rfl
set_option maxRecDepth 20000 in
theorem wc_X2_isOver : (Cond.code yX2_isOver cX2_isOver 2 (some .boolean)) ∈ GT := gt_t 337 rfl rfl
set_option maxRecDepth 20000 in
theorem wm_X3_109 : (Cond.methodLink RX3 109 yX1_powerLasts) ∈ GT := gt_t 338 rfl rfl
set_option maxRecDepth 20000 in
theorem wi_yX1_powerLasts : (Cond.instanceMethod yX1_powerLasts) ∈ GT := gt_t 339 rfl rfl
set_option maxRecDepth 20000 in
theorem wv_X1_powerLasts : (Cond.selects RX1 yX1_powerLasts yX1_powerLasts) ∈ GT := gt_t 340 rfl rfl
set_option maxRecDepth 20000 in
theorem wc_X1_powerLasts : (Cond.code yX1_powerLasts cX1_powerLasts 2 (some .boolean)) ∈ GT := gt_t 341 rfl rfl
set_option maxRecDepth 20000 in
theorem wm_X3_113 : (Cond.methodLink RX3 113 yX1_enlist) ∈ GT := gt_t 342 rfl rfl
set_option maxRecDepth 20000 in
theorem wi_yX1_enlist : (Cond.instanceMethod yX1_enlist) ∈ GT := gt_t 343 rfl rfl
set_option maxRecDepth 20000 in
theorem wv_X1_enlist : (Cond.selects RX1 yX1_enlist yX1_enlist) ∈ GT := gt_t 344 rfl rfl
set_option maxRecDepth 20000 in
theorem wc_X1_enlist : (Cond.code yX1_enlist cX1_enlist 3 none) ∈ GT := gt_t 345 rfl rfl
set_option maxRecDepth 20000 in
theorem wm_X1_78 : (Cond.methodLink RX1 78 yX2_headAt) ∈ GT := gt_t 346 rfl rfl
set_option maxRecDepth 20000 in
theorem wm_X1_82 : (Cond.methodLink RX1 82 yX1_keepCoin) ∈ GT := gt_t 347 rfl rfl
set_option maxRecDepth 20000 in
theorem wi_yX1_keepCoin : (Cond.instanceMethod yX1_keepCoin) ∈ GT := gt_t 349 rfl rfl
set_option maxRecDepth 20000 in
theorem wc_X1_keepCoin : (Cond.code yX1_keepCoin cX1_keepCoin 4 none) ∈ GT := gt_t 350 rfl rfl
set_option maxRecDepth 20000 in
theorem wm_X1_93 : (Cond.methodLink RX1 93 arraycopyName) ∈ GT := gt_t 351 rfl rfl
set_option maxRecDepth 20000 in
theorem wm_L_40 : (Cond.methodLink RL 40 yX3_pay) ∈ GT := gt_t 352 rfl rfl
set_option maxRecDepth 20000 in
theorem wi_yX3_pay : (Cond.instanceMethod yX3_pay) ∈ GT := gt_t 353 rfl rfl
set_option maxRecDepth 20000 in
theorem wv_X3_pay : (Cond.selects RX3 yX3_pay yX3_pay) ∈ GT := gt_t 354 rfl rfl
set_option maxRecDepth 20000 in
theorem wc_X3_pay : (Cond.code yX3_pay cX3_pay 8 (some .int)) ∈ GT := gt_t 355 rfl rfl
set_option maxRecDepth 20000 in
theorem wm_X3_117 : (Cond.methodLink RX3 117 yX3_isPlate) ∈ GT := gt_t 356 rfl rfl
set_option maxRecDepth 20000 in
theorem ws_yX3_isPlate : (Cond.static yX3_isPlate) ∈ GT := gt_t 357 rfl rfl
set_option maxRecDepth 20000 in
theorem wc_X3_isPlate : (Cond.code yX3_isPlate cX3_isPlate 1 (some .boolean)) ∈ GT := gt_t 358 rfl rfl
set_option maxRecDepth 20000 in
theorem wm_X3_120 : (Cond.methodLink RX3 120 yX1_honours) ∈ GT := gt_t 359 rfl rfl
set_option maxRecDepth 20000 in
theorem wi_yX1_honours : (Cond.instanceMethod yX1_honours) ∈ GT := gt_t 360 rfl rfl
set_option maxRecDepth 20000 in
theorem wv_X1_honours : (Cond.selects RX1 yX1_honours yX1_honours) ∈ GT := gt_t 361 rfl rfl
set_option maxRecDepth 20000 in
theorem wc_X1_honours : (Cond.code yX1_honours cX1_honours 3 (some .boolean)) ∈ GT := gt_t 362 rfl rfl
set_option maxRecDepth 20000 in
theorem wm_X3_128 : (Cond.methodLink RX3 128 yX2_hasCoin) ∈ GT := gt_t 363 rfl rfl
set_option maxRecDepth 20000 in
theorem wi_yX2_hasCoin : (Cond.instanceMethod yX2_hasCoin) ∈ GT := gt_t 364 rfl rfl
set_option maxRecDepth 20000 in
theorem wv_X2_hasCoin : (Cond.selects RX2 yX2_hasCoin yX2_hasCoin) ∈ GT := gt_t 365 rfl rfl
set_option maxRecDepth 20000 in
theorem wc_X2_hasCoin : (Cond.code yX2_hasCoin cX2_hasCoin 2 (some .boolean)) ∈ GT := gt_t 366 rfl rfl
set_option maxRecDepth 20000 in
theorem wm_X3_134 : (Cond.methodLink RX3 134 yX2_coinAt) ∈ GT := gt_t 368 rfl rfl
set_option maxRecDepth 20000 in
theorem wm_X3_138 : (Cond.methodLink RX3 138 yX3_hand) ∈ GT := gt_t 369 rfl rfl
set_option maxRecDepth 20000 in
theorem wi_yX3_hand : (Cond.instanceMethod yX3_hand) ∈ GT := gt_t 371 rfl rfl
set_option maxRecDepth 20000 in
theorem wc_X3_hand : (Cond.code yX3_hand cX3_hand 8 (some .int)) ∈ GT := gt_t 372 rfl rfl
set_option maxRecDepth 20000 in
theorem wm_X3_212 : (Cond.methodLink RX3 212 yX1_isGood) ∈ GT := gt_t 373 rfl rfl
set_option maxRecDepth 20000 in
theorem wi_yX1_isGood : (Cond.instanceMethod yX1_isGood) ∈ GT := gt_t 374 rfl rfl
set_option maxRecDepth 20000 in
theorem wv_X1_isGood : (Cond.selects RX1 yX1_isGood yX1_isGood) ∈ GT := gt_t 375 rfl rfl
set_option maxRecDepth 20000 in
theorem wc_X1_isGood : (Cond.code yX1_isGood cX1_isGood 9 (some .boolean)) ∈ GT := gt_t 376 rfl rfl
set_option maxRecDepth 20000 in
theorem wm_X1_99 : (Cond.methodLink RX1 99 yX0_cutToHead) ∈ GT := gt_t 377 rfl rfl
set_option maxRecDepth 20000 in
theorem wm_X1_103 : (Cond.methodLink RX1 103 yX0_cut) ∈ GT := gt_t 378 rfl rfl
set_option maxRecDepth 20000 in
theorem wm_X3_216 : (Cond.methodLink RX3 216 yX1_take) ∈ GT := gt_t 379 rfl rfl
set_option maxRecDepth 20000 in
theorem wi_yX1_take : (Cond.instanceMethod yX1_take) ∈ GT := gt_t 380 rfl rfl
set_option maxRecDepth 20000 in
theorem wv_X1_take : (Cond.selects RX1 yX1_take yX1_take) ∈ GT := gt_t 381 rfl rfl
set_option maxRecDepth 20000 in
theorem wc_X1_take : (Cond.code yX1_take cX1_take 6 (some .int)) ∈ GT := gt_t 382 rfl rfl
set_option maxRecDepth 20000 in
theorem wm_L_45 : (Cond.methodLink RL 45 yX3_offer) ∈ GT := gt_t 383 rfl rfl
set_option maxRecDepth 20000 in
theorem wi_yX3_offer : (Cond.instanceMethod yX3_offer) ∈ GT := gt_t 384 rfl rfl
set_option maxRecDepth 20000 in
theorem wv_X3_offer : (Cond.selects RX3 yX3_offer yX3_offer) ∈ GT := gt_t 385 rfl rfl
set_option maxRecDepth 20000 in
theorem wc_X3_offer : (Cond.code yX3_offer cX3_offer 7 (some .int)) ∈ GT := gt_t 386 rfl rfl
set_option maxRecDepth 20000 in
theorem wm_X3_142 : (Cond.methodLink RX3 142 yX1_isNext) ∈ GT := gt_t 387 rfl rfl
set_option maxRecDepth 20000 in
theorem wi_yX1_isNext : (Cond.instanceMethod yX1_isNext) ∈ GT := gt_t 388 rfl rfl
set_option maxRecDepth 20000 in
theorem wv_X1_isNext : (Cond.selects RX1 yX1_isNext yX1_isNext) ∈ GT := gt_t 389 rfl rfl
set_option maxRecDepth 20000 in
theorem wc_X1_isNext : (Cond.code yX1_isNext cX1_isNext 4 (some .boolean)) ∈ GT := gt_t 390 rfl rfl
set_option maxRecDepth 20000 in
theorem wm_L_49 : (Cond.methodLink RL 49 yX3_poke) ∈ GT := gt_t 392 rfl rfl
set_option maxRecDepth 20000 in
theorem wi_yX3_poke : (Cond.instanceMethod yX3_poke) ∈ GT := gt_t 393 rfl rfl
set_option maxRecDepth 20000 in
theorem wv_X3_poke : (Cond.selects RX3 yX3_poke yX3_poke) ∈ GT := gt_t 394 rfl rfl
set_option maxRecDepth 20000 in
theorem wc_X3_poke : (Cond.code yX3_poke cX3_poke 3 (some .boolean)) ∈ GT := gt_t 395 rfl rfl
set_option maxRecDepth 20000 in
theorem wm_L_54 : (Cond.methodLink RL 54 yX3_coinByte) ∈ GT := gt_t 396 rfl rfl
set_option maxRecDepth 20000 in
theorem wi_yX3_coinByte : (Cond.instanceMethod yX3_coinByte) ∈ GT := gt_t 397 rfl rfl
set_option maxRecDepth 20000 in
theorem wv_X3_coinByte : (Cond.selects RX3 yX3_coinByte yX3_coinByte) ∈ GT := gt_t 398 rfl rfl
set_option maxRecDepth 20000 in
theorem wc_X3_coinByte : (Cond.code yX3_coinByte cX3_coinByte 5 (some .int)) ∈ GT := gt_t 399 rfl rfl
set_option maxRecDepth 20000 in
theorem wm_L_59 : (Cond.methodLink RL 59 yX3_letterByte) ∈ GT := gt_t 400 rfl rfl
set_option maxRecDepth 20000 in
theorem wi_yX3_letterByte : (Cond.instanceMethod yX3_letterByte) ∈ GT := gt_t 401 rfl rfl
set_option maxRecDepth 20000 in
theorem wv_X3_letterByte : (Cond.selects RX3 yX3_letterByte yX3_letterByte) ∈ GT := gt_t 402 rfl rfl
set_option maxRecDepth 20000 in
theorem wc_X3_letterByte : (Cond.code yX3_letterByte cX3_letterByte 4 (some .int)) ∈ GT := gt_t 403 rfl rfl
set_option maxRecDepth 20000 in
theorem wm_L_63 : (Cond.methodLink RL 63 yX3_powerCut) ∈ GT := gt_t 404 rfl rfl
set_option maxRecDepth 20000 in
theorem wi_yX3_powerCut : (Cond.instanceMethod yX3_powerCut) ∈ GT := gt_t 405 rfl rfl
set_option maxRecDepth 20000 in
theorem wv_X3_powerCut : (Cond.selects RX3 yX3_powerCut yX3_powerCut) ∈ GT := gt_t 406 rfl rfl
set_option maxRecDepth 20000 in
theorem wc_X3_powerCut : (Cond.code yX3_powerCut cX3_powerCut 4 (some .boolean)) ∈ GT := gt_t 407 rfl rfl
set_option maxRecDepth 20000 in
theorem wm_L_67 : (Cond.methodLink RL 67 yX3_empty) ∈ GT := gt_t 408 rfl rfl
set_option maxRecDepth 20000 in
theorem wi_yX3_empty : (Cond.instanceMethod yX3_empty) ∈ GT := gt_t 409 rfl rfl
set_option maxRecDepth 20000 in
theorem wv_X3_empty : (Cond.selects RX3 yX3_empty yX3_empty) ∈ GT := gt_t 410 rfl rfl
set_option maxRecDepth 20000 in
theorem wc_X3_empty : (Cond.code yX3_empty cX3_empty 5 (some .int)) ∈ GT := gt_t 411 rfl rfl
set_option maxRecDepth 20000 in
theorem wm_X3_154 : (Cond.methodLink RX3 154 yX3_readOut) ∈ GT := gt_t 412 rfl rfl
set_option maxRecDepth 20000 in
theorem wi_yX3_readOut : (Cond.instanceMethod yX3_readOut) ∈ GT := gt_t 414 rfl rfl
set_option maxRecDepth 20000 in
theorem wc_X3_readOut : (Cond.code yX3_readOut cX3_readOut 4 none) ∈ GT := gt_t 415 rfl rfl
set_option maxRecDepth 20000 in
theorem wm_X3_224 : (Cond.methodLink RX3 224 yX2_isOver) ∈ GT := gt_t 416 rfl rfl
set_option maxRecDepth 20000 in
theorem wm_X3_227 : (Cond.methodLink RX3 227 yX1_strike) ∈ GT := gt_t 417 rfl rfl
set_option maxRecDepth 20000 in
theorem wi_yX1_strike : (Cond.instanceMethod yX1_strike) ∈ GT := gt_t 418 rfl rfl
set_option maxRecDepth 20000 in
theorem wv_X1_strike : (Cond.selects RX1 yX1_strike yX1_strike) ∈ GT := gt_t 419 rfl rfl
set_option maxRecDepth 20000 in
theorem wc_X1_strike : (Cond.code yX1_strike cX1_strike 2 none) ∈ GT := gt_t 420 rfl rfl
set_option maxRecDepth 20000 in
theorem wm_X3_160 : (Cond.methodLink RX3 160 Lib.Math.min.name) ∈ GT := gt_t 421 rfl rfl
set_option maxRecDepth 20000 in
theorem ws_Lib_Math_min_name : (Cond.static Lib.Math.min.name) ∈ GT := gt_t 422 rfl rfl
set_option maxRecDepth 20000 in
theorem wc_min : (Cond.code Lib.Math.min.name Lib.Math.min.code 2 (some .int)) ∈ GT := gt_t 423 rfl rfl
set_option maxRecDepth 20000 in
theorem wm_L_72 : (Cond.methodLink RL 72 yX3_settle) ∈ GT := gt_t 424 rfl rfl
set_option maxRecDepth 20000 in
theorem wi_yX3_settle : (Cond.instanceMethod yX3_settle) ∈ GT := gt_t 425 rfl rfl
set_option maxRecDepth 20000 in
theorem wv_X3_settle : (Cond.selects RX3 yX3_settle yX3_settle) ∈ GT := gt_t 426 rfl rfl
set_option maxRecDepth 20000 in
theorem wc_X3_settle : (Cond.code yX3_settle cX3_settle 7 (some .int)) ∈ GT := gt_t 427 rfl rfl
set_option maxRecDepth 20000 in
theorem wm_X3_169 : (Cond.methodLink RX3 169 yX2_settleAt) ∈ GT := gt_t 428 rfl rfl
set_option maxRecDepth 20000 in
theorem wi_yX2_settleAt : (Cond.instanceMethod yX2_settleAt) ∈ GT := gt_t 429 rfl rfl
set_option maxRecDepth 20000 in
theorem wv_X2_settleAt : (Cond.selects RX2 yX2_settleAt yX2_settleAt) ∈ GT := gt_t 430 rfl rfl
set_option maxRecDepth 20000 in
theorem wc_X2_settleAt : (Cond.code yX2_settleAt cX2_settleAt 4 (some .long)) ∈ GT := gt_t 431 rfl rfl
set_option maxRecDepth 20000 in
theorem wm_X2_100 : (Cond.methodLink RX2 100 Lib.Math.min.name) ∈ GT := gt_t 432 rfl rfl
set_option maxRecDepth 20000 in
theorem wm_X3_183 : (Cond.methodLink RX3 183 yX3_giveBack) ∈ GT := gt_t 433 rfl rfl
set_option maxRecDepth 20000 in
theorem wi_yX3_giveBack : (Cond.instanceMethod yX3_giveBack) ∈ GT := gt_t 435 rfl rfl
set_option maxRecDepth 20000 in
theorem wc_X3_giveBack : (Cond.code yX3_giveBack cX3_giveBack 4 none) ∈ GT := gt_t 436 rfl rfl
set_option maxRecDepth 20000 in
theorem wm_L_77 : (Cond.methodLink RL 77 yX3_account) ∈ GT := gt_t 437 rfl rfl
set_option maxRecDepth 20000 in
theorem wi_yX3_account : (Cond.instanceMethod yX3_account) ∈ GT := gt_t 438 rfl rfl
set_option maxRecDepth 20000 in
theorem wv_X3_account : (Cond.selects RX3 yX3_account yX3_account) ∈ GT := gt_t 439 rfl rfl
set_option maxRecDepth 20000 in
theorem wc_X3_account : (Cond.code yX3_account cX3_account 2 (some .long)) ∈ GT := gt_t 440 rfl rfl
set_option maxRecDepth 20000 in
theorem wm_X3_186 : (Cond.methodLink RX3 186 yX3_inAllPurses) ∈ GT := gt_t 441 rfl rfl
set_option maxRecDepth 20000 in
theorem wi_yX3_inAllPurses : (Cond.instanceMethod yX3_inAllPurses) ∈ GT := gt_t 443 rfl rfl
set_option maxRecDepth 20000 in
theorem wc_X3_inAllPurses : (Cond.code yX3_inAllPurses cX3_inAllPurses 4 (some .long)) ∈ GT := gt_t 444 rfl rfl
set_option maxRecDepth 20000 in
theorem wk_X3_190 : (Cond.constantLong RX3 190 (-1 : Int64)) ∈ GT := gt_t 445 rfl rfl
set_option maxRecDepth 20000 in
theorem wm_L_82 : (Cond.methodLink RL 82 yX3_spent) ∈ GT := gt_t 446 rfl rfl
set_option maxRecDepth 20000 in
theorem wi_yX3_spent : (Cond.instanceMethod yX3_spent) ∈ GT := gt_t 447 rfl rfl
set_option maxRecDepth 20000 in
theorem wv_X3_spent : (Cond.selects RX3 yX3_spent yX3_spent) ∈ GT := gt_t 448 rfl rfl
set_option maxRecDepth 20000 in
theorem wc_X3_spent : (Cond.code yX3_spent cX3_spent 5 (some .int)) ∈ GT := gt_t 449 rfl rfl
set_option maxRecDepth 20000 in
theorem wm_L_86 : (Cond.methodLink RL 86 yX3_overspent) ∈ GT := gt_t 450 rfl rfl
set_option maxRecDepth 20000 in
theorem wi_yX3_overspent : (Cond.instanceMethod yX3_overspent) ∈ GT := gt_t 451 rfl rfl
set_option maxRecDepth 20000 in
theorem wv_X3_overspent : (Cond.selects RX3 yX3_overspent yX3_overspent) ∈ GT := gt_t 452 rfl rfl
set_option maxRecDepth 20000 in
theorem wc_X3_overspent : (Cond.code yX3_overspent cX3_overspent 3 (some .int)) ∈ GT := gt_t 453 rfl rfl
set_option maxRecDepth 20000 in
theorem wm_L_90 : (Cond.methodLink RL 90 yX3_minutes) ∈ GT := gt_t 454 rfl rfl
set_option maxRecDepth 20000 in
theorem wi_yX3_minutes : (Cond.instanceMethod yX3_minutes) ∈ GT := gt_t 455 rfl rfl
set_option maxRecDepth 20000 in
theorem wv_X3_minutes : (Cond.selects RX3 yX3_minutes yX3_minutes) ∈ GT := gt_t 456 rfl rfl
set_option maxRecDepth 20000 in
theorem wc_X3_minutes : (Cond.code yX3_minutes cX3_minutes 4 (some .int)) ∈ GT := gt_t 457 rfl rfl
set_option maxRecDepth 20000 in
theorem wm_L_94 : (Cond.methodLink RL 94 yX3_count) ∈ GT := gt_t 458 rfl rfl
set_option maxRecDepth 20000 in
theorem wi_yX3_count : (Cond.instanceMethod yX3_count) ∈ GT := gt_t 459 rfl rfl
set_option maxRecDepth 20000 in
theorem wv_X3_count : (Cond.selects RX3 yX3_count yX3_count) ∈ GT := gt_t 460 rfl rfl
set_option maxRecDepth 20000 in
theorem wc_X3_count : (Cond.code yX3_count cX3_count 2 (some .int)) ∈ GT := gt_t 461 rfl rfl
set_option maxRecDepth 20000 in
theorem wm_X3_202 : (Cond.methodLink RX3 202 yX3_onAllLists) ∈ GT := gt_t 462 rfl rfl
set_option maxRecDepth 20000 in
theorem wi_yX3_onAllLists : (Cond.instanceMethod yX3_onAllLists) ∈ GT := gt_t 464 rfl rfl
set_option maxRecDepth 20000 in
theorem wc_X3_onAllLists : (Cond.code yX3_onAllLists cX3_onAllLists 3 (some .int)) ∈ GT := gt_t 465 rfl rfl
set_option maxRecDepth 20000 in
theorem wm_X3_206 : (Cond.methodLink RX3 206 yX3_blockedScrolls) ∈ GT := gt_t 466 rfl rfl
set_option maxRecDepth 20000 in
theorem wi_yX3_blockedScrolls : (Cond.instanceMethod yX3_blockedScrolls) ∈ GT := gt_t 468 rfl rfl
set_option maxRecDepth 20000 in
theorem wc_X3_blockedScrolls : (Cond.code yX3_blockedScrolls cX3_blockedScrolls 3 (some .int)) ∈ GT := gt_t 469 rfl rfl
set_option maxRecDepth 20000 in
theorem wm_X3_209 : (Cond.methodLink RX3 209 yX3_closedScrolls) ∈ GT := gt_t 470 rfl rfl
set_option maxRecDepth 20000 in
theorem wi_yX3_closedScrolls : (Cond.instanceMethod yX3_closedScrolls) ∈ GT := gt_t 472 rfl rfl
set_option maxRecDepth 20000 in
theorem wc_X3_closedScrolls : (Cond.code yX3_closedScrolls cX3_closedScrolls 3 (some .int)) ∈ GT := gt_t 473 rfl rfl
set_option maxRecDepth 20000 in
theorem wl_L_10 : (Cond.classLink RL 10 RX4) ∈ GT := gt_t 474 rfl rfl
set_option maxRecDepth 20000 in
theorem wt_X4 : (Cond.instantiable RX4 45) ∈ GT := gt_t 475 rfl rfl
set_option maxRecDepth 20000 in
theorem wm_L_12 : (Cond.methodLink RL 12 yX4_init) ∈ GT := gt_t 476 rfl rfl
set_option maxRecDepth 20000 in
theorem wi_yX4_init : (Cond.instanceMethod yX4_init) ∈ GT := gt_t 477 rfl rfl
set_option maxRecDepth 20000 in
theorem wc_X4_init : (Cond.code yX4_init cX4_init 2 none) ∈ GT := gt_t 478 rfl rfl
set_option maxRecDepth 20000 in
theorem wm_X4_1 : (Cond.methodLink RX4 1 objectInit) ∈ GT := gt_t 479 rfl rfl
set_option maxRecDepth 20000 in
theorem wm_X4_118 : (Cond.methodLink RX4 118 yX4_primes) ∈ GT := gt_t 480 rfl rfl
set_option maxRecDepth 20000 in
theorem wi_yX4_primes : (Cond.instanceMethod yX4_primes) ∈ GT := gt_t 482 rfl rfl
set_option maxRecDepth 20000 in
theorem wc_X4_primes : (Cond.code yX4_primes cX4_primes 2 none) ∈ GT := gt_t 483 rfl rfl
set_option maxRecDepth 20000 in
theorem wk_X4_125 : (Cond.constant RX4 125 (1779033703 : Int32)) ∈ GT := gt_t 484 rfl rfl
set_option maxRecDepth 20000 in
theorem wk_X4_126 : (Cond.constant RX4 126 (-1150833019 : Int32)) ∈ GT := gt_t 485 rfl rfl
set_option maxRecDepth 20000 in
theorem wk_X4_127 : (Cond.constant RX4 127 (1013904242 : Int32)) ∈ GT := gt_t 486 rfl rfl
set_option maxRecDepth 20000 in
theorem wk_X4_128 : (Cond.constant RX4 128 (-1521486534 : Int32)) ∈ GT := gt_t 487 rfl rfl
set_option maxRecDepth 20000 in
theorem wm_X4_129 : (Cond.methodLink RX4 129 yX4_four) ∈ GT := gt_t 488 rfl rfl
set_option maxRecDepth 20000 in
theorem wi_yX4_four : (Cond.instanceMethod yX4_four) ∈ GT := gt_t 490 rfl rfl
set_option maxRecDepth 20000 in
theorem wc_X4_four : (Cond.code yX4_four cX4_four 6 none) ∈ GT := gt_t 491 rfl rfl
set_option maxRecDepth 20000 in
theorem wk_X4_133 : (Cond.constant RX4 133 (1359893119 : Int32)) ∈ GT := gt_t 492 rfl rfl
set_option maxRecDepth 20000 in
theorem wk_X4_134 : (Cond.constant RX4 134 (-1694144372 : Int32)) ∈ GT := gt_t 493 rfl rfl
set_option maxRecDepth 20000 in
theorem wk_X4_135 : (Cond.constant RX4 135 (528734635 : Int32)) ∈ GT := gt_t 494 rfl rfl
set_option maxRecDepth 20000 in
theorem wk_X4_136 : (Cond.constant RX4 136 (1541459225 : Int32)) ∈ GT := gt_t 495 rfl rfl
set_option maxRecDepth 20000 in
theorem wk_X4_137 : (Cond.constant RX4 137 (1116352408 : Int32)) ∈ GT := gt_t 496 rfl rfl
set_option maxRecDepth 20000 in
theorem wk_X4_138 : (Cond.constant RX4 138 (1899447441 : Int32)) ∈ GT := gt_t 497 rfl rfl
set_option maxRecDepth 20000 in
theorem wk_X4_139 : (Cond.constant RX4 139 (-1245643825 : Int32)) ∈ GT := gt_t 498 rfl rfl
set_option maxRecDepth 20000 in
theorem wk_X4_140 : (Cond.constant RX4 140 (-373957723 : Int32)) ∈ GT := gt_t 499 rfl rfl
set_option maxRecDepth 20000 in
theorem wk_X4_141 : (Cond.constant RX4 141 (961987163 : Int32)) ∈ GT := gt_t 500 rfl rfl
set_option maxRecDepth 20000 in
theorem wk_X4_142 : (Cond.constant RX4 142 (1508970993 : Int32)) ∈ GT := gt_t 501 rfl rfl
set_option maxRecDepth 20000 in
theorem wk_X4_143 : (Cond.constant RX4 143 (-1841331548 : Int32)) ∈ GT := gt_t 502 rfl rfl
set_option maxRecDepth 20000 in
theorem wk_X4_144 : (Cond.constant RX4 144 (-1424204075 : Int32)) ∈ GT := gt_t 503 rfl rfl
set_option maxRecDepth 20000 in
theorem wk_X4_145 : (Cond.constant RX4 145 (-670586216 : Int32)) ∈ GT := gt_t 504 rfl rfl
set_option maxRecDepth 20000 in
theorem wk_X4_146 : (Cond.constant RX4 146 (310598401 : Int32)) ∈ GT := gt_t 505 rfl rfl
set_option maxRecDepth 20000 in
theorem wk_X4_147 : (Cond.constant RX4 147 (607225278 : Int32)) ∈ GT := gt_t 506 rfl rfl
set_option maxRecDepth 20000 in
theorem wk_X4_148 : (Cond.constant RX4 148 (1426881987 : Int32)) ∈ GT := gt_t 507 rfl rfl
set_option maxRecDepth 20000 in
theorem wk_X4_149 : (Cond.constant RX4 149 (1925078388 : Int32)) ∈ GT := gt_t 508 rfl rfl
set_option maxRecDepth 20000 in
theorem wk_X4_150 : (Cond.constant RX4 150 (-2132889090 : Int32)) ∈ GT := gt_t 509 rfl rfl
set_option maxRecDepth 20000 in
theorem wk_X4_151 : (Cond.constant RX4 151 (-1680079193 : Int32)) ∈ GT := gt_t 510 rfl rfl
set_option maxRecDepth 20000 in
theorem wk_X4_152 : (Cond.constant RX4 152 (-1046744716 : Int32)) ∈ GT := gt_t 511 rfl rfl
set_option maxRecDepth 20000 in
theorem wk_X4_153 : (Cond.constant RX4 153 (-459576895 : Int32)) ∈ GT := gt_t 512 rfl rfl
set_option maxRecDepth 20000 in
theorem wk_X4_154 : (Cond.constant RX4 154 (-272742522 : Int32)) ∈ GT := gt_t 513 rfl rfl
set_option maxRecDepth 20000 in
theorem wk_X4_155 : (Cond.constant RX4 155 (264347078 : Int32)) ∈ GT := gt_t 514 rfl rfl
set_option maxRecDepth 20000 in
theorem wk_X4_156 : (Cond.constant RX4 156 (604807628 : Int32)) ∈ GT := gt_t 515 rfl rfl
set_option maxRecDepth 20000 in
theorem wk_X4_157 : (Cond.constant RX4 157 (770255983 : Int32)) ∈ GT := gt_t 516 rfl rfl
set_option maxRecDepth 20000 in
theorem wk_X4_158 : (Cond.constant RX4 158 (1249150122 : Int32)) ∈ GT := gt_t 517 rfl rfl
set_option maxRecDepth 20000 in
theorem wk_X4_159 : (Cond.constant RX4 159 (1555081692 : Int32)) ∈ GT := gt_t 518 rfl rfl
set_option maxRecDepth 20000 in
theorem wk_X4_160 : (Cond.constant RX4 160 (1996064986 : Int32)) ∈ GT := gt_t 519 rfl rfl
set_option maxRecDepth 20000 in
theorem wk_X4_161 : (Cond.constant RX4 161 (-1740746414 : Int32)) ∈ GT := gt_t 520 rfl rfl
set_option maxRecDepth 20000 in
theorem wk_X4_162 : (Cond.constant RX4 162 (-1473132947 : Int32)) ∈ GT := gt_t 521 rfl rfl
set_option maxRecDepth 20000 in
theorem wk_X4_163 : (Cond.constant RX4 163 (-1341970488 : Int32)) ∈ GT := gt_t 522 rfl rfl
set_option maxRecDepth 20000 in
theorem wk_X4_164 : (Cond.constant RX4 164 (-1084653625 : Int32)) ∈ GT := gt_t 523 rfl rfl
set_option maxRecDepth 20000 in
theorem wk_X4_165 : (Cond.constant RX4 165 (-958395405 : Int32)) ∈ GT := gt_t 524 rfl rfl
set_option maxRecDepth 20000 in
theorem wk_X4_166 : (Cond.constant RX4 166 (-710438585 : Int32)) ∈ GT := gt_t 525 rfl rfl
set_option maxRecDepth 20000 in
theorem wk_X4_167 : (Cond.constant RX4 167 (113926993 : Int32)) ∈ GT := gt_t 526 rfl rfl
set_option maxRecDepth 20000 in
theorem wk_X4_168 : (Cond.constant RX4 168 (338241895 : Int32)) ∈ GT := gt_t 527 rfl rfl
set_option maxRecDepth 20000 in
theorem wk_X4_169 : (Cond.constant RX4 169 (666307205 : Int32)) ∈ GT := gt_t 528 rfl rfl
set_option maxRecDepth 20000 in
theorem wk_X4_170 : (Cond.constant RX4 170 (773529912 : Int32)) ∈ GT := gt_t 529 rfl rfl
set_option maxRecDepth 20000 in
theorem wk_X4_171 : (Cond.constant RX4 171 (1294757372 : Int32)) ∈ GT := gt_t 530 rfl rfl
set_option maxRecDepth 20000 in
theorem wk_X4_172 : (Cond.constant RX4 172 (1396182291 : Int32)) ∈ GT := gt_t 531 rfl rfl
set_option maxRecDepth 20000 in
theorem wk_X4_173 : (Cond.constant RX4 173 (1695183700 : Int32)) ∈ GT := gt_t 532 rfl rfl
set_option maxRecDepth 20000 in
theorem wk_X4_174 : (Cond.constant RX4 174 (1986661051 : Int32)) ∈ GT := gt_t 533 rfl rfl
set_option maxRecDepth 20000 in
theorem wk_X4_175 : (Cond.constant RX4 175 (-2117940946 : Int32)) ∈ GT := gt_t 534 rfl rfl
set_option maxRecDepth 20000 in
theorem wk_X4_176 : (Cond.constant RX4 176 (-1838011259 : Int32)) ∈ GT := gt_t 535 rfl rfl
set_option maxRecDepth 20000 in
theorem wk_X4_177 : (Cond.constant RX4 177 (-1564481375 : Int32)) ∈ GT := gt_t 536 rfl rfl
set_option maxRecDepth 20000 in
theorem wk_X4_178 : (Cond.constant RX4 178 (-1474664885 : Int32)) ∈ GT := gt_t 537 rfl rfl
set_option maxRecDepth 20000 in
theorem wk_X4_179 : (Cond.constant RX4 179 (-1035236496 : Int32)) ∈ GT := gt_t 538 rfl rfl
set_option maxRecDepth 20000 in
theorem wk_X4_180 : (Cond.constant RX4 180 (-949202525 : Int32)) ∈ GT := gt_t 539 rfl rfl
set_option maxRecDepth 20000 in
theorem wk_X4_181 : (Cond.constant RX4 181 (-778901479 : Int32)) ∈ GT := gt_t 540 rfl rfl
set_option maxRecDepth 20000 in
theorem wk_X4_182 : (Cond.constant RX4 182 (-694614492 : Int32)) ∈ GT := gt_t 541 rfl rfl
set_option maxRecDepth 20000 in
theorem wk_X4_183 : (Cond.constant RX4 183 (-200395387 : Int32)) ∈ GT := gt_t 542 rfl rfl
set_option maxRecDepth 20000 in
theorem wk_X4_184 : (Cond.constant RX4 184 (275423344 : Int32)) ∈ GT := gt_t 543 rfl rfl
set_option maxRecDepth 20000 in
theorem wk_X4_185 : (Cond.constant RX4 185 (430227734 : Int32)) ∈ GT := gt_t 544 rfl rfl
set_option maxRecDepth 20000 in
theorem wk_X4_186 : (Cond.constant RX4 186 (506948616 : Int32)) ∈ GT := gt_t 545 rfl rfl
set_option maxRecDepth 20000 in
theorem wk_X4_187 : (Cond.constant RX4 187 (659060556 : Int32)) ∈ GT := gt_t 546 rfl rfl
set_option maxRecDepth 20000 in
theorem wk_X4_188 : (Cond.constant RX4 188 (883997877 : Int32)) ∈ GT := gt_t 547 rfl rfl
set_option maxRecDepth 20000 in
theorem wk_X4_189 : (Cond.constant RX4 189 (958139571 : Int32)) ∈ GT := gt_t 548 rfl rfl
set_option maxRecDepth 20000 in
theorem wk_X4_190 : (Cond.constant RX4 190 (1322822218 : Int32)) ∈ GT := gt_t 549 rfl rfl
set_option maxRecDepth 20000 in
theorem wk_X4_191 : (Cond.constant RX4 191 (1537002063 : Int32)) ∈ GT := gt_t 550 rfl rfl
set_option maxRecDepth 20000 in
theorem wk_X4_192 : (Cond.constant RX4 192 (1747873779 : Int32)) ∈ GT := gt_t 551 rfl rfl
set_option maxRecDepth 20000 in
theorem wk_X4_193 : (Cond.constant RX4 193 (1955562222 : Int32)) ∈ GT := gt_t 552 rfl rfl
set_option maxRecDepth 20000 in
theorem wk_X4_194 : (Cond.constant RX4 194 (2024104815 : Int32)) ∈ GT := gt_t 553 rfl rfl
set_option maxRecDepth 20000 in
theorem wk_X4_195 : (Cond.constant RX4 195 (-2067236844 : Int32)) ∈ GT := gt_t 554 rfl rfl
set_option maxRecDepth 20000 in
theorem wk_X4_196 : (Cond.constant RX4 196 (-1933114872 : Int32)) ∈ GT := gt_t 555 rfl rfl
set_option maxRecDepth 20000 in
theorem wk_X4_197 : (Cond.constant RX4 197 (-1866530822 : Int32)) ∈ GT := gt_t 556 rfl rfl
set_option maxRecDepth 20000 in
theorem wk_X4_198 : (Cond.constant RX4 198 (-1538233109 : Int32)) ∈ GT := gt_t 557 rfl rfl
set_option maxRecDepth 20000 in
theorem wk_X4_199 : (Cond.constant RX4 199 (-1090935817 : Int32)) ∈ GT := gt_t 558 rfl rfl
set_option maxRecDepth 20000 in
theorem wk_X4_200 : (Cond.constant RX4 200 (-965641998 : Int32)) ∈ GT := gt_t 559 rfl rfl
set_option maxRecDepth 20000 in
theorem wf_X4_121 : (Cond.fieldLink RX4 121 "ScrollTownModel" "thrown" "I") ∈ GT := gt_t 560 rfl rfl
set_option maxRecDepth 20000 in
theorem wf_X4_7 : (Cond.fieldLink RX4 7 "ScrollTownModel" "cubes" "[I") ∈ GT := gt_t 561 rfl rfl
set_option maxRecDepth 20000 in
theorem wf_X4_13 : (Cond.fieldLink RX4 13 "ScrollTownModel" "squares" "[I") ∈ GT := gt_t 562 rfl rfl
set_option maxRecDepth 20000 in
theorem wf_X4_16 : (Cond.fieldLink RX4 16 "ScrollTownModel" "row" "[B") ∈ GT := gt_t 563 rfl rfl
set_option maxRecDepth 20000 in
theorem wf_X4_20 : (Cond.fieldLink RX4 20 "ScrollTownModel" "w" "[I") ∈ GT := gt_t 564 rfl rfl
set_option maxRecDepth 20000 in
theorem wf_X4_23 : (Cond.fieldLink RX4 23 "ScrollTownModel" "h" "[I") ∈ GT := gt_t 565 rfl rfl
set_option maxRecDepth 20000 in
theorem wf_X4_26 : (Cond.fieldLink RX4 26 "ScrollTownModel" "now" "[I") ∈ GT := gt_t 566 rfl rfl
set_option maxRecDepth 20000 in
theorem wf_X4_29 : (Cond.fieldLink RX4 29 "ScrollTownModel" "hash" "[B") ∈ GT := gt_t 567 rfl rfl
set_option maxRecDepth 20000 in
theorem wf_X4_32 : (Cond.fieldLink RX4 32 "ScrollTownModel" "coin" "[B") ∈ GT := gt_t 568 rfl rfl
set_option maxRecDepth 20000 in
theorem wf_X4_35 : (Cond.fieldLink RX4 35 "ScrollTownModel" "code" "[B") ∈ GT := gt_t 569 rfl rfl
set_option maxRecDepth 20000 in
theorem wf_X4_38 : (Cond.fieldLink RX4 38 "ScrollTownModel" "letter" "[B") ∈ GT := gt_t 570 rfl rfl
set_option maxRecDepth 20000 in
theorem wf_X4_41 : (Cond.fieldLink RX4 41 "ScrollTownModel" "buffer" "[B") ∈ GT := gt_t 571 rfl rfl
set_option maxRecDepth 20000 in
theorem wf_X4_255 : (Cond.fieldLink RX4 255 "ScrollTownModel" "day" "I") ∈ GT := gt_t 572 rfl rfl
set_option maxRecDepth 20000 in
theorem wf_X4_44 : (Cond.fieldLink RX4 44 "ScrollTownModel" "purses" "[J") ∈ GT := gt_t 573 rfl rfl
set_option maxRecDepth 20000 in
theorem wf_X4_268 : (Cond.fieldLink RX4 268 "ScrollTownModel" "kept" "J") ∈ GT := gt_t 574 rfl rfl
set_option maxRecDepth 20000 in
theorem wf_X4_297 : (Cond.fieldLink RX4 297 "ScrollTownModel" "town" "J") ∈ GT := gt_t 575 rfl rfl
set_option maxRecDepth 20000 in
theorem wf_X4_252 : (Cond.fieldLink RX4 252 "ScrollTownModel" "week" "I") ∈ GT := gt_t 576 rfl rfl
set_option maxRecDepth 20000 in
theorem wf_X4_239 : (Cond.fieldLink RX4 239 "ScrollTownModel" "keyOne" "J") ∈ GT := gt_t 577 rfl rfl
set_option maxRecDepth 20000 in
theorem wf_X4_246 : (Cond.fieldLink RX4 246 "ScrollTownModel" "keyTwo" "J") ∈ GT := gt_t 578 rfl rfl
set_option maxRecDepth 20000 in
theorem wf_X4_243 : (Cond.fieldLink RX4 243 "ScrollTownModel" "oldOne" "J") ∈ GT := gt_t 579 rfl rfl
set_option maxRecDepth 20000 in
theorem wf_X4_249 : (Cond.fieldLink RX4 249 "ScrollTownModel" "oldTwo" "J") ∈ GT := gt_t 580 rfl rfl
set_option maxRecDepth 20000 in
theorem wf_X4_265 : (Cond.fieldLink RX4 265 "ScrollTownModel" "scrolls" "I") ∈ GT := gt_t 581 rfl rfl
set_option maxRecDepth 20000 in
theorem wf_X4_48 : (Cond.fieldLink RX4 48 "ScrollTownModel" "owner" "[I") ∈ GT := gt_t 582 rfl rfl
set_option maxRecDepth 20000 in
theorem wf_X4_51 : (Cond.fieldLink RX4 51 "ScrollTownModel" "coins" "[I") ∈ GT := gt_t 583 rfl rfl
set_option maxRecDepth 20000 in
theorem wf_X4_54 : (Cond.fieldLink RX4 54 "ScrollTownModel" "cents" "[I") ∈ GT := gt_t 584 rfl rfl
set_option maxRecDepth 20000 in
theorem wf_X4_57 : (Cond.fieldLink RX4 57 "ScrollTownModel" "sets" "[I") ∈ GT := gt_t 585 rfl rfl
set_option maxRecDepth 20000 in
theorem wf_X4_60 : (Cond.fieldLink RX4 60 "ScrollTownModel" "seeds" "[J") ∈ GT := gt_t 586 rfl rfl
set_option maxRecDepth 20000 in
theorem wf_X4_63 : (Cond.fieldLink RX4 63 "ScrollTownModel" "ends" "[I") ∈ GT := gt_t 587 rfl rfl
set_option maxRecDepth 20000 in
theorem wf_X4_66 : (Cond.fieldLink RX4 66 "ScrollTownModel" "withOne" "[J") ∈ GT := gt_t 588 rfl rfl
set_option maxRecDepth 20000 in
theorem wf_X4_69 : (Cond.fieldLink RX4 69 "ScrollTownModel" "withTwo" "[J") ∈ GT := gt_t 589 rfl rfl
set_option maxRecDepth 20000 in
theorem wf_X4_72 : (Cond.fieldLink RX4 72 "ScrollTownModel" "gone" "[I") ∈ GT := gt_t 590 rfl rfl
set_option maxRecDepth 20000 in
theorem wf_X4_75 : (Cond.fieldLink RX4 75 "ScrollTownModel" "over" "[I") ∈ GT := gt_t 591 rfl rfl
set_option maxRecDepth 20000 in
theorem wf_X4_78 : (Cond.fieldLink RX4 78 "ScrollTownModel" "blocked" "[Z") ∈ GT := gt_t 592 rfl rfl
set_option maxRecDepth 20000 in
theorem wf_X4_82 : (Cond.fieldLink RX4 82 "ScrollTownModel" "closed" "[Z") ∈ GT := gt_t 593 rfl rfl
set_option maxRecDepth 20000 in
theorem wf_X4_85 : (Cond.fieldLink RX4 85 "ScrollTownModel" "read" "[I") ∈ GT := gt_t 594 rfl rfl
set_option maxRecDepth 20000 in
theorem wf_X4_88 : (Cond.fieldLink RX4 88 "ScrollTownModel" "settled" "[I") ∈ GT := gt_t 595 rfl rfl
set_option maxRecDepth 20000 in
theorem wf_X4_91 : (Cond.fieldLink RX4 91 "ScrollTownModel" "keys" "[I") ∈ GT := gt_t 596 rfl rfl
set_option maxRecDepth 20000 in
theorem wf_X4_94 : (Cond.fieldLink RX4 94 "ScrollTownModel" "meterOne" "[J") ∈ GT := gt_t 597 rfl rfl
set_option maxRecDepth 20000 in
theorem wf_X4_97 : (Cond.fieldLink RX4 97 "ScrollTownModel" "meterTwo" "[J") ∈ GT := gt_t 598 rfl rfl
set_option maxRecDepth 20000 in
theorem wf_X4_100 : (Cond.fieldLink RX4 100 "ScrollTownModel" "barred" "[I") ∈ GT := gt_t 599 rfl rfl
set_option maxRecDepth 20000 in
theorem wf_X4_103 : (Cond.fieldLink RX4 103 "ScrollTownModel" "writes" "[I") ∈ GT := gt_t 600 rfl rfl
set_option maxRecDepth 20000 in
theorem wf_X4_106 : (Cond.fieldLink RX4 106 "ScrollTownModel" "listed" "[Z") ∈ GT := gt_t 601 rfl rfl
set_option maxRecDepth 20000 in
theorem wf_X4_109 : (Cond.fieldLink RX4 109 "ScrollTownModel" "index" "[I") ∈ GT := gt_t 602 rfl rfl
set_option maxRecDepth 20000 in
theorem wf_X4_112 : (Cond.fieldLink RX4 112 "ScrollTownModel" "last" "[B") ∈ GT := gt_t 603 rfl rfl
set_option maxRecDepth 20000 in
theorem wf_X4_115 : (Cond.fieldLink RX4 115 "ScrollTownModel" "minutes" "[I") ∈ GT := gt_t 604 rfl rfl
set_option maxRecDepth 20000 in
theorem wm_L_19 : (Cond.methodLink RL 19 yX4_newWeek) ∈ GT := gt_t 696 rfl rfl
set_option maxRecDepth 20000 in
theorem wi_yX4_newWeek : (Cond.instanceMethod yX4_newWeek) ∈ GT := gt_t 697 rfl rfl
set_option maxRecDepth 20000 in
theorem wv_X4_newWeek : (Cond.selects RX4 yX4_newWeek yX4_newWeek) ∈ GT := gt_t 698 rfl rfl
set_option maxRecDepth 20000 in
theorem wc_X4_newWeek : (Cond.code yX4_newWeek cX4_newWeek 5 (some .int)) ∈ GT := gt_t 699 rfl rfl
set_option maxRecDepth 20000 in
theorem wm_L_24 : (Cond.methodLink RL 24 yX4_today) ∈ GT := gt_t 700 rfl rfl
set_option maxRecDepth 20000 in
theorem wi_yX4_today : (Cond.instanceMethod yX4_today) ∈ GT := gt_t 701 rfl rfl
set_option maxRecDepth 20000 in
theorem wv_X4_today : (Cond.selects RX4 yX4_today yX4_today) ∈ GT := gt_t 702 rfl rfl
set_option maxRecDepth 20000 in
theorem wc_X4_today : (Cond.code yX4_today cX4_today 3 (some .boolean)) ∈ GT := gt_t 703 rfl rfl
set_option maxRecDepth 20000 in
theorem wk_X4_258 : (Cond.constant RX4 258 (1000000 : Int32)) ∈ GT := gt_t 704 rfl rfl
set_option maxRecDepth 20000 in
theorem wm_L_29 : (Cond.methodLink RL 29 yX4_money) ∈ GT := gt_t 705 rfl rfl
set_option maxRecDepth 20000 in
theorem wi_yX4_money : (Cond.instanceMethod yX4_money) ∈ GT := gt_t 706 rfl rfl
set_option maxRecDepth 20000 in
theorem wv_X4_money : (Cond.selects RX4 yX4_money yX4_money) ∈ GT := gt_t 707 rfl rfl
set_option maxRecDepth 20000 in
theorem wc_X4_money : (Cond.code yX4_money cX4_money 4 (some .boolean)) ∈ GT := gt_t 708 rfl rfl
set_option maxRecDepth 20000 in
theorem wm_X4_259 : (Cond.methodLink RX4 259 yX4_within) ∈ GT := gt_t 709 rfl rfl
set_option maxRecDepth 20000 in
theorem ws_yX4_within : (Cond.static yX4_within) ∈ GT := gt_t 710 rfl rfl
set_option maxRecDepth 20000 in
theorem wc_X4_within : (Cond.code yX4_within cX4_within 3 (some .boolean)) ∈ GT := gt_t 711 rfl rfl
set_option maxRecDepth 20000 in
theorem wk_X4_263 : (Cond.constantLong RX4 263 (1000000000 : Int64)) ∈ GT := gt_t 712 rfl rfl
set_option maxRecDepth 20000 in
theorem wm_L_34 : (Cond.methodLink RL 34 yX4_buy) ∈ GT := gt_t 713 rfl rfl
set_option maxRecDepth 20000 in
theorem wi_yX4_buy : (Cond.instanceMethod yX4_buy) ∈ GT := gt_t 714 rfl rfl
set_option maxRecDepth 20000 in
theorem wv_X4_buy : (Cond.selects RX4 yX4_buy yX4_buy) ∈ GT := gt_t 715 rfl rfl
set_option maxRecDepth 20000 in
theorem wc_X4_buy : (Cond.code yX4_buy cX4_buy 8 (some .int)) ∈ GT := gt_t 716 rfl rfl
set_option maxRecDepth 20000 in
theorem wm_L_39 : (Cond.methodLink RL 39 yX4_insert) ∈ GT := gt_t 717 rfl rfl
set_option maxRecDepth 20000 in
theorem wi_yX4_insert : (Cond.instanceMethod yX4_insert) ∈ GT := gt_t 718 rfl rfl
set_option maxRecDepth 20000 in
theorem wv_X4_insert : (Cond.selects RX4 yX4_insert yX4_insert) ∈ GT := gt_t 719 rfl rfl
set_option maxRecDepth 20000 in
theorem wc_X4_insert : (Cond.code yX4_insert cX4_insert 6 (some .int)) ∈ GT := gt_t 720 rfl rfl
set_option maxRecDepth 20000 in
theorem wm_X4_274 : (Cond.methodLink RX4 274 yX4_isPair) ∈ GT := gt_t 721 rfl rfl
set_option maxRecDepth 20000 in
theorem wi_yX4_isPair : (Cond.instanceMethod yX4_isPair) ∈ GT := gt_t 723 rfl rfl
set_option maxRecDepth 20000 in
theorem wc_X4_isPair : (Cond.code yX4_isPair cX4_isPair 3 (some .boolean)) ∈ GT := gt_t 724 rfl rfl
set_option maxRecDepth 20000 in
theorem wm_X4_278 : (Cond.methodLink RX4 278 yX4_knows) ∈ GT := gt_t 725 rfl rfl
set_option maxRecDepth 20000 in
theorem wi_yX4_knows : (Cond.instanceMethod yX4_knows) ∈ GT := gt_t 727 rfl rfl
set_option maxRecDepth 20000 in
theorem wc_X4_knows : (Cond.code yX4_knows cX4_knows 6 (some .boolean)) ∈ GT := gt_t 728 rfl rfl
set_option maxRecDepth 20000 in
theorem wm_X4_271 : (Cond.methodLink RX4 271 yX4_letterOf) ∈ GT := gt_t 729 rfl rfl
set_option maxRecDepth 20000 in
theorem wi_yX4_letterOf : (Cond.instanceMethod yX4_letterOf) ∈ GT := gt_t 731 rfl rfl
set_option maxRecDepth 20000 in
theorem wc_X4_letterOf : (Cond.code yX4_letterOf cX4_letterOf 5 none) ∈ GT := gt_t 732 rfl rfl
set_option maxRecDepth 20000 in
theorem wm_X4_224 : (Cond.methodLink RX4 224 yX4_number) ∈ GT := gt_t 733 rfl rfl
set_option maxRecDepth 20000 in
theorem wi_yX4_number : (Cond.instanceMethod yX4_number) ∈ GT := gt_t 735 rfl rfl
set_option maxRecDepth 20000 in
theorem wc_X4_number : (Cond.code yX4_number cX4_number 5 none) ∈ GT := gt_t 736 rfl rfl
set_option maxRecDepth 20000 in
theorem wm_X4_228 : (Cond.methodLink RX4 228 yX4_coinOf) ∈ GT := gt_t 737 rfl rfl
set_option maxRecDepth 20000 in
theorem wi_yX4_coinOf : (Cond.instanceMethod yX4_coinOf) ∈ GT := gt_t 739 rfl rfl
set_option maxRecDepth 20000 in
theorem wc_X4_coinOf : (Cond.code yX4_coinOf cX4_coinOf 4 none) ∈ GT := gt_t 740 rfl rfl
set_option maxRecDepth 20000 in
theorem wm_X4_209 : (Cond.methodLink RX4 209 yX4_hash) ∈ GT := gt_t 741 rfl rfl
set_option maxRecDepth 20000 in
theorem wi_yX4_hash : (Cond.instanceMethod yX4_hash) ∈ GT := gt_t 743 rfl rfl
set_option maxRecDepth 20000 in
theorem wc_X4_hash : (Cond.code yX4_hash cX4_hash 4 none) ∈ GT := gt_t 744 rfl rfl
set_option maxRecDepth 20000 in
theorem wm_X4_205 : (Cond.methodLink RX4 205 yX4_block) ∈ GT := gt_t 745 rfl rfl
set_option maxRecDepth 20000 in
theorem wi_yX4_block : (Cond.instanceMethod yX4_block) ∈ GT := gt_t 747 rfl rfl
set_option maxRecDepth 20000 in
theorem wc_X4_block : (Cond.code yX4_block cX4_block 8 none) ∈ GT := gt_t 748 rfl rfl
set_option maxRecDepth 20000 in
theorem wm_X4_201 : (Cond.methodLink RX4 201 yX4_rot) ∈ GT := gt_t 749 rfl rfl
set_option maxRecDepth 20000 in
theorem ws_yX4_rot : (Cond.static yX4_rot) ∈ GT := gt_t 750 rfl rfl
set_option maxRecDepth 20000 in
theorem wc_X4_rot : (Cond.code yX4_rot cX4_rot 2 (some .int)) ∈ GT := gt_t 751 rfl rfl
set_option maxRecDepth 20000 in
theorem wm_X4_211 : (Cond.methodLink RX4 211 yX4_cut) ∈ GT := gt_t 752 rfl rfl
set_option maxRecDepth 20000 in
theorem wi_yX4_cut : (Cond.instanceMethod yX4_cut) ∈ GT := gt_t 754 rfl rfl
set_option maxRecDepth 20000 in
theorem wc_X4_cut : (Cond.code yX4_cut cX4_cut 2 none) ∈ GT := gt_t 755 rfl rfl
set_option maxRecDepth 20000 in
theorem wm_X4_214 : (Cond.methodLink RX4 214 yX4_hashed) ∈ GT := gt_t 756 rfl rfl
set_option maxRecDepth 20000 in
theorem wi_yX4_hashed : (Cond.instanceMethod yX4_hashed) ∈ GT := gt_t 758 rfl rfl
set_option maxRecDepth 20000 in
theorem wc_X4_hashed : (Cond.code yX4_hashed cX4_hashed 1 none) ∈ GT := gt_t 759 rfl rfl
set_option maxRecDepth 20000 in
theorem wm_X4_217 : (Cond.methodLink RX4 217 yX4_coinToRow) ∈ GT := gt_t 760 rfl rfl
set_option maxRecDepth 20000 in
theorem wi_yX4_coinToRow : (Cond.instanceMethod yX4_coinToRow) ∈ GT := gt_t 762 rfl rfl
set_option maxRecDepth 20000 in
theorem wc_X4_coinToRow : (Cond.code yX4_coinToRow cX4_coinToRow 2 none) ∈ GT := gt_t 763 rfl rfl
set_option maxRecDepth 20000 in
theorem wm_X4_232 : (Cond.methodLink RX4 232 yX4_headed) ∈ GT := gt_t 764 rfl rfl
set_option maxRecDepth 20000 in
theorem wi_yX4_headed : (Cond.instanceMethod yX4_headed) ∈ GT := gt_t 766 rfl rfl
set_option maxRecDepth 20000 in
theorem wc_X4_headed : (Cond.code yX4_headed cX4_headed 2 none) ∈ GT := gt_t 767 rfl rfl
set_option maxRecDepth 20000 in
theorem wm_X4_235 : (Cond.methodLink RX4 235 yX4_codeBy) ∈ GT := gt_t 768 rfl rfl
set_option maxRecDepth 20000 in
theorem wi_yX4_codeBy : (Cond.instanceMethod yX4_codeBy) ∈ GT := gt_t 770 rfl rfl
set_option maxRecDepth 20000 in
theorem wc_X4_codeBy : (Cond.code yX4_codeBy cX4_codeBy 6 none) ∈ GT := gt_t 771 rfl rfl
set_option maxRecDepth 20000 in
theorem wm_X4_220 : (Cond.methodLink RX4 220 yX4_keyToRow) ∈ GT := gt_t 772 rfl rfl
set_option maxRecDepth 20000 in
theorem wi_yX4_keyToRow : (Cond.instanceMethod yX4_keyToRow) ∈ GT := gt_t 774 rfl rfl
set_option maxRecDepth 20000 in
theorem wc_X4_keyToRow : (Cond.code yX4_keyToRow cX4_keyToRow 8 none) ∈ GT := gt_t 775 rfl rfl
set_option maxRecDepth 20000 in
theorem wm_X4_281 : (Cond.methodLink RX4 281 yX4_lists) ∈ GT := gt_t 776 rfl rfl
set_option maxRecDepth 20000 in
theorem wi_yX4_lists : (Cond.instanceMethod yX4_lists) ∈ GT := gt_t 778 rfl rfl
set_option maxRecDepth 20000 in
theorem wc_X4_lists : (Cond.code yX4_lists cX4_lists 4 (some .int)) ∈ GT := gt_t 779 rfl rfl
set_option maxRecDepth 20000 in
theorem wm_X4_285 : (Cond.methodLink RX4 285 yX4_stays) ∈ GT := gt_t 780 rfl rfl
set_option maxRecDepth 20000 in
theorem wi_yX4_stays : (Cond.instanceMethod yX4_stays) ∈ GT := gt_t 782 rfl rfl
set_option maxRecDepth 20000 in
theorem wc_X4_stays : (Cond.code yX4_stays cX4_stays 3 (some .boolean)) ∈ GT := gt_t 783 rfl rfl
set_option maxRecDepth 20000 in
theorem wm_L_44 : (Cond.methodLink RL 44 yX4_pay) ∈ GT := gt_t 784 rfl rfl
set_option maxRecDepth 20000 in
theorem wi_yX4_pay : (Cond.instanceMethod yX4_pay) ∈ GT := gt_t 785 rfl rfl
set_option maxRecDepth 20000 in
theorem wv_X4_pay : (Cond.selects RX4 yX4_pay yX4_pay) ∈ GT := gt_t 786 rfl rfl
set_option maxRecDepth 20000 in
theorem wc_X4_pay : (Cond.code yX4_pay cX4_pay 7 (some .int)) ∈ GT := gt_t 787 rfl rfl
set_option maxRecDepth 20000 in
theorem wm_X4_289 : (Cond.methodLink RX4 289 yX4_answers) ∈ GT := gt_t 788 rfl rfl
set_option maxRecDepth 20000 in
theorem wi_yX4_answers : (Cond.instanceMethod yX4_answers) ∈ GT := gt_t 790 rfl rfl
set_option maxRecDepth 20000 in
theorem wc_X4_answers : (Cond.code yX4_answers cX4_answers 5 (some .int)) ∈ GT := gt_t 791 rfl rfl
set_option maxRecDepth 20000 in
theorem wm_X4_293 : (Cond.methodLink RX4 293 yX4_takes) ∈ GT := gt_t 792 rfl rfl
set_option maxRecDepth 20000 in
theorem wi_yX4_takes : (Cond.instanceMethod yX4_takes) ∈ GT := gt_t 794 rfl rfl
set_option maxRecDepth 20000 in
theorem wc_X4_takes : (Cond.code yX4_takes cX4_takes 9 (some .int)) ∈ GT := gt_t 795 rfl rfl
set_option maxRecDepth 20000 in
theorem wm_L_48 : (Cond.methodLink RL 48 yX4_offer) ∈ GT := gt_t 796 rfl rfl
set_option maxRecDepth 20000 in
theorem wi_yX4_offer : (Cond.instanceMethod yX4_offer) ∈ GT := gt_t 797 rfl rfl
set_option maxRecDepth 20000 in
theorem wv_X4_offer : (Cond.selects RX4 yX4_offer yX4_offer) ∈ GT := gt_t 798 rfl rfl
set_option maxRecDepth 20000 in
theorem wc_X4_offer : (Cond.code yX4_offer cX4_offer 6 (some .int)) ∈ GT := gt_t 799 rfl rfl
set_option maxRecDepth 20000 in
theorem wm_L_53 : (Cond.methodLink RL 53 yX4_poke) ∈ GT := gt_t 800 rfl rfl
set_option maxRecDepth 20000 in
theorem wi_yX4_poke : (Cond.instanceMethod yX4_poke) ∈ GT := gt_t 801 rfl rfl
set_option maxRecDepth 20000 in
theorem wv_X4_poke : (Cond.selects RX4 yX4_poke yX4_poke) ∈ GT := gt_t 802 rfl rfl
set_option maxRecDepth 20000 in
theorem wc_X4_poke : (Cond.code yX4_poke cX4_poke 3 (some .boolean)) ∈ GT := gt_t 803 rfl rfl
set_option maxRecDepth 20000 in
theorem wm_L_58 : (Cond.methodLink RL 58 yX4_coinByte) ∈ GT := gt_t 804 rfl rfl
set_option maxRecDepth 20000 in
theorem wi_yX4_coinByte : (Cond.instanceMethod yX4_coinByte) ∈ GT := gt_t 805 rfl rfl
set_option maxRecDepth 20000 in
theorem wv_X4_coinByte : (Cond.selects RX4 yX4_coinByte yX4_coinByte) ∈ GT := gt_t 806 rfl rfl
set_option maxRecDepth 20000 in
theorem wc_X4_coinByte : (Cond.code yX4_coinByte cX4_coinByte 4 (some .int)) ∈ GT := gt_t 807 rfl rfl
set_option maxRecDepth 20000 in
theorem wm_L_62 : (Cond.methodLink RL 62 yX4_letterByte) ∈ GT := gt_t 808 rfl rfl
set_option maxRecDepth 20000 in
theorem wi_yX4_letterByte : (Cond.instanceMethod yX4_letterByte) ∈ GT := gt_t 809 rfl rfl
set_option maxRecDepth 20000 in
theorem wv_X4_letterByte : (Cond.selects RX4 yX4_letterByte yX4_letterByte) ∈ GT := gt_t 810 rfl rfl
set_option maxRecDepth 20000 in
theorem wc_X4_letterByte : (Cond.code yX4_letterByte cX4_letterByte 3 (some .int)) ∈ GT := gt_t 811 rfl rfl
set_option maxRecDepth 20000 in
theorem wm_L_66 : (Cond.methodLink RL 66 yX4_powerCut) ∈ GT := gt_t 812 rfl rfl
set_option maxRecDepth 20000 in
theorem wi_yX4_powerCut : (Cond.instanceMethod yX4_powerCut) ∈ GT := gt_t 813 rfl rfl
set_option maxRecDepth 20000 in
theorem wv_X4_powerCut : (Cond.selects RX4 yX4_powerCut yX4_powerCut) ∈ GT := gt_t 814 rfl rfl
set_option maxRecDepth 20000 in
theorem wc_X4_powerCut : (Cond.code yX4_powerCut cX4_powerCut 3 (some .boolean)) ∈ GT := gt_t 815 rfl rfl
set_option maxRecDepth 20000 in
theorem wm_L_71 : (Cond.methodLink RL 71 yX4_empty) ∈ GT := gt_t 816 rfl rfl
set_option maxRecDepth 20000 in
theorem wi_yX4_empty : (Cond.instanceMethod yX4_empty) ∈ GT := gt_t 817 rfl rfl
set_option maxRecDepth 20000 in
theorem wv_X4_empty : (Cond.selects RX4 yX4_empty yX4_empty) ∈ GT := gt_t 818 rfl rfl
set_option maxRecDepth 20000 in
theorem wc_X4_empty : (Cond.code yX4_empty cX4_empty 5 (some .int)) ∈ GT := gt_t 819 rfl rfl
set_option maxRecDepth 20000 in
theorem wm_L_76 : (Cond.methodLink RL 76 yX4_settle) ∈ GT := gt_t 820 rfl rfl
set_option maxRecDepth 20000 in
theorem wi_yX4_settle : (Cond.instanceMethod yX4_settle) ∈ GT := gt_t 821 rfl rfl
set_option maxRecDepth 20000 in
theorem wv_X4_settle : (Cond.selects RX4 yX4_settle yX4_settle) ∈ GT := gt_t 822 rfl rfl
set_option maxRecDepth 20000 in
theorem wc_X4_settle : (Cond.code yX4_settle cX4_settle 7 (some .int)) ∈ GT := gt_t 823 rfl rfl
set_option maxRecDepth 20000 in
theorem wm_L_81 : (Cond.methodLink RL 81 yX4_account) ∈ GT := gt_t 824 rfl rfl
set_option maxRecDepth 20000 in
theorem wi_yX4_account : (Cond.instanceMethod yX4_account) ∈ GT := gt_t 825 rfl rfl
set_option maxRecDepth 20000 in
theorem wv_X4_account : (Cond.selects RX4 yX4_account yX4_account) ∈ GT := gt_t 826 rfl rfl
set_option maxRecDepth 20000 in
theorem wc_X4_account : (Cond.code yX4_account cX4_account 5 (some .long)) ∈ GT := gt_t 827 rfl rfl
set_option maxRecDepth 20000 in
theorem wk_X4_300 : (Cond.constantLong RX4 300 (-1 : Int64)) ∈ GT := gt_t 828 rfl rfl
set_option maxRecDepth 20000 in
theorem wm_L_85 : (Cond.methodLink RL 85 yX4_spent) ∈ GT := gt_t 829 rfl rfl
set_option maxRecDepth 20000 in
theorem wi_yX4_spent : (Cond.instanceMethod yX4_spent) ∈ GT := gt_t 830 rfl rfl
set_option maxRecDepth 20000 in
theorem wv_X4_spent : (Cond.selects RX4 yX4_spent yX4_spent) ∈ GT := gt_t 831 rfl rfl
set_option maxRecDepth 20000 in
theorem wc_X4_spent : (Cond.code yX4_spent cX4_spent 3 (some .int)) ∈ GT := gt_t 832 rfl rfl
set_option maxRecDepth 20000 in
theorem wm_L_89 : (Cond.methodLink RL 89 yX4_overspent) ∈ GT := gt_t 833 rfl rfl
set_option maxRecDepth 20000 in
theorem wi_yX4_overspent : (Cond.instanceMethod yX4_overspent) ∈ GT := gt_t 834 rfl rfl
set_option maxRecDepth 20000 in
theorem wv_X4_overspent : (Cond.selects RX4 yX4_overspent yX4_overspent) ∈ GT := gt_t 835 rfl rfl
set_option maxRecDepth 20000 in
theorem wc_X4_overspent : (Cond.code yX4_overspent cX4_overspent 2 (some .int)) ∈ GT := gt_t 836 rfl rfl
set_option maxRecDepth 20000 in
theorem wm_L_93 : (Cond.methodLink RL 93 yX4_minutes) ∈ GT := gt_t 837 rfl rfl
set_option maxRecDepth 20000 in
theorem wi_yX4_minutes : (Cond.instanceMethod yX4_minutes) ∈ GT := gt_t 838 rfl rfl
set_option maxRecDepth 20000 in
theorem wv_X4_minutes : (Cond.selects RX4 yX4_minutes yX4_minutes) ∈ GT := gt_t 839 rfl rfl
set_option maxRecDepth 20000 in
theorem wc_X4_minutes : (Cond.code yX4_minutes cX4_minutes 3 (some .int)) ∈ GT := gt_t 840 rfl rfl
set_option maxRecDepth 20000 in
theorem wm_L_97 : (Cond.methodLink RL 97 yX4_count) ∈ GT := gt_t 841 rfl rfl
set_option maxRecDepth 20000 in
theorem wi_yX4_count : (Cond.instanceMethod yX4_count) ∈ GT := gt_t 842 rfl rfl
set_option maxRecDepth 20000 in
theorem wv_X4_count : (Cond.selects RX4 yX4_count yX4_count) ∈ GT := gt_t 843 rfl rfl
set_option maxRecDepth 20000 in
theorem wc_X4_count : (Cond.code yX4_count cX4_count 6 (some .int)) ∈ GT := gt_t 844 rfl rfl
set_option maxRecDepth 20000 in
theorem wk_L_13 : (Cond.constantLong RL 13 (4294967295 : Int64)) ∈ GT := gt_t 845 rfl rfl
theorem wv_X0_spread : (Cond.selects RX0 yX0_spread yX0_spread) ∈ GT := gt_s 0 rfl rfl
theorem wv_X0_mix : (Cond.selects RX0 yX0_mix yX0_mix) ∈ GT := gt_s 1 rfl rfl
theorem wv_X0_addBytes : (Cond.selects RX0 yX0_addBytes yX0_addBytes) ∈ GT := gt_s 2 rfl rfl
theorem wv_X0_beginWithKey : (Cond.selects RX0 yX0_beginWithKey yX0_beginWithKey) ∈ GT := gt_s 3 rfl rfl
theorem wv_X3_scrollOf : (Cond.selects RX3 yX3_scrollOf yX3_scrollOf) ∈ GT := gt_s 4 rfl rfl
theorem wv_X3_meterOf : (Cond.selects RX3 yX3_meterOf yX3_meterOf) ∈ GT := gt_s 5 rfl rfl
theorem wv_X1_isCodeBy : (Cond.selects RX1 yX1_isCodeBy yX1_isCodeBy) ∈ GT := gt_s 6 rfl rfl
theorem wv_X1_keepCoin : (Cond.selects RX1 yX1_keepCoin yX1_keepCoin) ∈ GT := gt_s 7 rfl rfl
theorem wv_X3_hand : (Cond.selects RX3 yX3_hand yX3_hand) ∈ GT := gt_s 8 rfl rfl
theorem wv_X3_readOut : (Cond.selects RX3 yX3_readOut yX3_readOut) ∈ GT := gt_s 9 rfl rfl
theorem wv_X3_giveBack : (Cond.selects RX3 yX3_giveBack yX3_giveBack) ∈ GT := gt_s 10 rfl rfl
theorem wv_X3_inAllPurses : (Cond.selects RX3 yX3_inAllPurses yX3_inAllPurses) ∈ GT := gt_s 11 rfl rfl
theorem wv_X3_onAllLists : (Cond.selects RX3 yX3_onAllLists yX3_onAllLists) ∈ GT := gt_s 12 rfl rfl
theorem wv_X3_blockedScrolls : (Cond.selects RX3 yX3_blockedScrolls yX3_blockedScrolls) ∈ GT := gt_s 13 rfl rfl
theorem wv_X3_closedScrolls : (Cond.selects RX3 yX3_closedScrolls yX3_closedScrolls) ∈ GT := gt_s 14 rfl rfl
theorem wv_X4_primes : (Cond.selects RX4 yX4_primes yX4_primes) ∈ GT := gt_s 15 rfl rfl
theorem wv_X4_four : (Cond.selects RX4 yX4_four yX4_four) ∈ GT := gt_s 16 rfl rfl
theorem wv_X4_isPair : (Cond.selects RX4 yX4_isPair yX4_isPair) ∈ GT := gt_s 17 rfl rfl
theorem wv_X4_knows : (Cond.selects RX4 yX4_knows yX4_knows) ∈ GT := gt_s 18 rfl rfl
theorem wv_X4_letterOf : (Cond.selects RX4 yX4_letterOf yX4_letterOf) ∈ GT := gt_s 19 rfl rfl
theorem wv_X4_number : (Cond.selects RX4 yX4_number yX4_number) ∈ GT := gt_s 20 rfl rfl
theorem wv_X4_coinOf : (Cond.selects RX4 yX4_coinOf yX4_coinOf) ∈ GT := gt_s 21 rfl rfl
theorem wv_X4_hash : (Cond.selects RX4 yX4_hash yX4_hash) ∈ GT := gt_s 22 rfl rfl
theorem wv_X4_block : (Cond.selects RX4 yX4_block yX4_block) ∈ GT := gt_s 23 rfl rfl
theorem wv_X4_cut : (Cond.selects RX4 yX4_cut yX4_cut) ∈ GT := gt_s 24 rfl rfl
theorem wv_X4_hashed : (Cond.selects RX4 yX4_hashed yX4_hashed) ∈ GT := gt_s 25 rfl rfl
theorem wv_X4_coinToRow : (Cond.selects RX4 yX4_coinToRow yX4_coinToRow) ∈ GT := gt_s 26 rfl rfl
theorem wv_X4_headed : (Cond.selects RX4 yX4_headed yX4_headed) ∈ GT := gt_s 27 rfl rfl
theorem wv_X4_codeBy : (Cond.selects RX4 yX4_codeBy yX4_codeBy) ∈ GT := gt_s 28 rfl rfl
theorem wv_X4_keyToRow : (Cond.selects RX4 yX4_keyToRow yX4_keyToRow) ∈ GT := gt_s 29 rfl rfl
theorem wv_X4_lists : (Cond.selects RX4 yX4_lists yX4_lists) ∈ GT := gt_s 30 rfl rfl
theorem wv_X4_stays : (Cond.selects RX4 yX4_stays yX4_stays) ∈ GT := gt_s 31 rfl rfl
theorem wv_X4_answers : (Cond.selects RX4 yX4_answers yX4_answers) ∈ GT := gt_s 32 rfl rfl
theorem wv_X4_takes : (Cond.selects RX4 yX4_takes yX4_takes) ∈ GT := gt_s 33 rfl rfl
abbrev wsX3_init : List Cond := .code yX3_init cX3_init 2 none :: GT
abbrev wsX0_init : List Cond := .code yX0_init cX0_init 1 none :: GT
abbrev wsX1_init : List Cond := .code yX1_init cX1_init 2 none :: GT
abbrev wsX3_newWeek : List Cond := .code yX3_newWeek cX3_newWeek 5 (some .int) :: GT
abbrev wsX3_writeNumber : List Cond := .code yX3_writeNumber cX3_writeNumber 6 none :: GT
abbrev wsX3_today : List Cond := .code yX3_today cX3_today 3 (some .boolean) :: GT
abbrev wsX1_forgetMinutes : List Cond := .code yX1_forgetMinutes cX1_forgetMinutes 2 none :: GT
abbrev wsX3_money : List Cond := .code yX3_money cX3_money 4 (some .boolean) :: GT
abbrev wsX3_isMotorist : List Cond := .code yX3_isMotorist cX3_isMotorist 1 (some .boolean) :: GT
abbrev wsX3_isWithin : List Cond := .code yX3_isWithin cX3_isWithin 3 (some .boolean) :: GT
abbrev wsX3_buy : List Cond := .code yX3_buy cX3_buy 11 (some .int) :: GT
abbrev wsX2_init : List Cond := .code yX2_init cX2_init 7 none :: GT
abbrev wsX2_mint : List Cond := .code yX2_mint cX2_mint 5 none :: GT
abbrev wsX0_begin : List Cond := .code yX0_begin cX0_begin 1 none :: GT
abbrev wsX0_addNumber : List Cond := .code yX0_addNumber cX0_addNumber 4 none :: GT
abbrev wsX2_coinAt : List Cond := .code yX2_coinAt cX2_coinAt 2 (some .int) :: GT
abbrev wsX0_finish : List Cond := .code yX0_finish cX0_finish 6 none :: GT
abbrev wsX0_spread : List Cond := .code yX0_spread cX0_spread 7 none :: GT
abbrev wsX0_rot : List Cond := .code yX0_rot cX0_rot 2 (some .int) :: GT
abbrev wsX0_mix : List Cond := .code yX0_mix cX0_mix 12 none :: GT
abbrev wsX0_cut : List Cond := .code yX0_cut cX0_cut 5 none :: GT
abbrev wsX0_addBytes : List Cond := .code yX0_addBytes cX0_addBytes 4 none :: GT
abbrev wsX2_write : List Cond := .code yX2_write cX2_write 4 none :: GT
abbrev wsX2_isFor : List Cond := .code yX2_isFor cX2_isFor 2 (some .boolean) :: GT
abbrev wsX2_headAt : List Cond := .code yX2_headAt cX2_headAt 2 (some .int) :: GT
abbrev wsX0_cutToHead : List Cond := .code yX0_cutToHead cX0_cutToHead 6 none :: GT
abbrev wsX0_makeCode : List Cond := .code yX0_makeCode cX0_makeCode 4 none :: GT
abbrev wsX0_beginWithKey : List Cond := .code yX0_beginWithKey cX0_beginWithKey 4 none :: GT
abbrev wsX3_insert : List Cond := .code yX3_insert cX3_insert 6 (some .int) :: GT
abbrev wsX3_scrollOf : List Cond := .code yX3_scrollOf cX3_scrollOf 2 (some (.object "ScrollTown$Scroll")) :: GT
abbrev wsX3_meterOf : List Cond := .code yX3_meterOf cX3_meterOf 2 (some (.object "ScrollTown$Meter")) :: GT
abbrev wsX1_refusal : List Cond := .code yX1_refusal cX1_refusal 5 (some .int) :: GT
abbrev wsX1_isCodeBy : List Cond := .code yX1_isCodeBy cX1_isCodeBy 4 (some .boolean) :: GT
abbrev wsX3_sameBytes : List Cond := .code yX3_sameBytes cX3_sameBytes 6 (some .boolean) :: GT
abbrev wsX2_isOver : List Cond := .code yX2_isOver cX2_isOver 2 (some .boolean) :: GT
abbrev wsX1_powerLasts : List Cond := .code yX1_powerLasts cX1_powerLasts 2 (some .boolean) :: GT
abbrev wsX1_enlist : List Cond := .code yX1_enlist cX1_enlist 3 none :: GT
abbrev wsX1_keepCoin : List Cond := .code yX1_keepCoin cX1_keepCoin 4 none :: GT
abbrev wsX3_pay : List Cond := .code yX3_pay cX3_pay 8 (some .int) :: GT
abbrev wsX3_isPlate : List Cond := .code yX3_isPlate cX3_isPlate 1 (some .boolean) :: GT
abbrev wsX1_honours : List Cond := .code yX1_honours cX1_honours 3 (some .boolean) :: GT
abbrev wsX2_hasCoin : List Cond := .code yX2_hasCoin cX2_hasCoin 2 (some .boolean) :: GT
abbrev wsX3_hand : List Cond := .code yX3_hand cX3_hand 8 (some .int) :: GT
abbrev wsX1_isGood : List Cond := .code yX1_isGood cX1_isGood 9 (some .boolean) :: GT
abbrev wsX1_take : List Cond := .code yX1_take cX1_take 6 (some .int) :: GT
abbrev wsX3_offer : List Cond := .code yX3_offer cX3_offer 7 (some .int) :: GT
abbrev wsX1_isNext : List Cond := .code yX1_isNext cX1_isNext 4 (some .boolean) :: GT
abbrev wsX3_poke : List Cond := .code yX3_poke cX3_poke 3 (some .boolean) :: GT
abbrev wsX3_coinByte : List Cond := .code yX3_coinByte cX3_coinByte 5 (some .int) :: GT
abbrev wsX3_letterByte : List Cond := .code yX3_letterByte cX3_letterByte 4 (some .int) :: GT
abbrev wsX3_powerCut : List Cond := .code yX3_powerCut cX3_powerCut 4 (some .boolean) :: GT
abbrev wsX3_empty : List Cond := .code yX3_empty cX3_empty 5 (some .int) :: GT
abbrev wsX3_readOut : List Cond := .code yX3_readOut cX3_readOut 4 none :: GT
abbrev wsX1_strike : List Cond := .code yX1_strike cX1_strike 2 none :: GT
abbrev wsX3_settle : List Cond := .code yX3_settle cX3_settle 7 (some .int) :: GT
abbrev wsX2_settleAt : List Cond := .code yX2_settleAt cX2_settleAt 4 (some .long) :: GT
abbrev wsX3_giveBack : List Cond := .code yX3_giveBack cX3_giveBack 4 none :: GT
abbrev wsX3_account : List Cond := .code yX3_account cX3_account 2 (some .long) :: GT
abbrev wsX3_inAllPurses : List Cond := .code yX3_inAllPurses cX3_inAllPurses 4 (some .long) :: GT
abbrev wsX3_spent : List Cond := .code yX3_spent cX3_spent 5 (some .int) :: GT
abbrev wsX3_overspent : List Cond := .code yX3_overspent cX3_overspent 3 (some .int) :: GT
abbrev wsX3_minutes : List Cond := .code yX3_minutes cX3_minutes 4 (some .int) :: GT
abbrev wsX3_count : List Cond := .code yX3_count cX3_count 2 (some .int) :: GT
abbrev wsX3_onAllLists : List Cond := .code yX3_onAllLists cX3_onAllLists 3 (some .int) :: GT
abbrev wsX3_blockedScrolls : List Cond := .code yX3_blockedScrolls cX3_blockedScrolls 3 (some .int) :: GT
abbrev wsX3_closedScrolls : List Cond := .code yX3_closedScrolls cX3_closedScrolls 3 (some .int) :: GT
abbrev wsX4_init : List Cond := .code yX4_init cX4_init 2 none :: GT
abbrev wsX4_primes : List Cond := .code yX4_primes cX4_primes 2 none :: GT
abbrev wsX4_four : List Cond := .code yX4_four cX4_four 6 none :: GT
abbrev wsX4_newWeek : List Cond := .code yX4_newWeek cX4_newWeek 5 (some .int) :: GT
abbrev wsX4_today : List Cond := .code yX4_today cX4_today 3 (some .boolean) :: GT
abbrev wsX4_money : List Cond := .code yX4_money cX4_money 4 (some .boolean) :: GT
abbrev wsX4_within : List Cond := .code yX4_within cX4_within 3 (some .boolean) :: GT
abbrev wsX4_buy : List Cond := .code yX4_buy cX4_buy 8 (some .int) :: GT
abbrev wsX4_insert : List Cond := .code yX4_insert cX4_insert 6 (some .int) :: GT
abbrev wsX4_isPair : List Cond := .code yX4_isPair cX4_isPair 3 (some .boolean) :: GT
abbrev wsX4_knows : List Cond := .code yX4_knows cX4_knows 6 (some .boolean) :: GT
abbrev wsX4_letterOf : List Cond := .code yX4_letterOf cX4_letterOf 5 none :: GT
abbrev wsX4_number : List Cond := .code yX4_number cX4_number 5 none :: GT
abbrev wsX4_coinOf : List Cond := .code yX4_coinOf cX4_coinOf 4 none :: GT
abbrev wsX4_hash : List Cond := .code yX4_hash cX4_hash 4 none :: GT
abbrev wsX4_block : List Cond := .code yX4_block cX4_block 8 none :: GT
abbrev wsX4_rot : List Cond := .code yX4_rot cX4_rot 2 (some .int) :: GT
abbrev wsX4_cut : List Cond := .code yX4_cut cX4_cut 2 none :: GT
abbrev wsX4_hashed : List Cond := .code yX4_hashed cX4_hashed 1 none :: GT
abbrev wsX4_coinToRow : List Cond := .code yX4_coinToRow cX4_coinToRow 2 none :: GT
abbrev wsX4_headed : List Cond := .code yX4_headed cX4_headed 2 none :: GT
abbrev wsX4_codeBy : List Cond := .code yX4_codeBy cX4_codeBy 6 none :: GT
abbrev wsX4_keyToRow : List Cond := .code yX4_keyToRow cX4_keyToRow 8 none :: GT
abbrev wsX4_lists : List Cond := .code yX4_lists cX4_lists 4 (some .int) :: GT
abbrev wsX4_stays : List Cond := .code yX4_stays cX4_stays 3 (some .boolean) :: GT
abbrev wsX4_pay : List Cond := .code yX4_pay cX4_pay 7 (some .int) :: GT
abbrev wsX4_answers : List Cond := .code yX4_answers cX4_answers 5 (some .int) :: GT
abbrev wsX4_takes : List Cond := .code yX4_takes cX4_takes 9 (some .int) :: GT
abbrev wsX4_offer : List Cond := .code yX4_offer cX4_offer 6 (some .int) :: GT
abbrev wsX4_poke : List Cond := .code yX4_poke cX4_poke 3 (some .boolean) :: GT
abbrev wsX4_coinByte : List Cond := .code yX4_coinByte cX4_coinByte 4 (some .int) :: GT
abbrev wsX4_letterByte : List Cond := .code yX4_letterByte cX4_letterByte 3 (some .int) :: GT
abbrev wsX4_powerCut : List Cond := .code yX4_powerCut cX4_powerCut 3 (some .boolean) :: GT
abbrev wsX4_empty : List Cond := .code yX4_empty cX4_empty 5 (some .int) :: GT
abbrev wsX4_settle : List Cond := .code yX4_settle cX4_settle 7 (some .int) :: GT
abbrev wsX4_account : List Cond := .code yX4_account cX4_account 5 (some .long) :: GT
abbrev wsX4_spent : List Cond := .code yX4_spent cX4_spent 3 (some .int) :: GT
abbrev wsX4_overspent : List Cond := .code yX4_overspent cX4_overspent 2 (some .int) :: GT
abbrev wsX4_minutes : List Cond := .code yX4_minutes cX4_minutes 3 (some .int) :: GT
abbrev wsX4_count : List Cond := .code yX4_count cX4_count 6 (some .int) :: GT
