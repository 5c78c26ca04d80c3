set_option maxRecDepth 100000 in
theorem km_L_17 : Cond.methodLink RL 17 yX12_feed ∈ tb := tb_mem 1205 (by decide +kernel) rfl
set_option maxRecDepth 100000 in
theorem kj_X12_feed : Cond.instanceMethod yX12_feed ∈ tb := tb_mem 1206 (by decide +kernel) rfl
set_option maxRecDepth 100000 in
theorem kl_X12_feed : Cond.selects RX12 yX12_feed yX12_feed ∈ tb := tb_mem 1207 (by decide +kernel) rfl
set_option maxRecDepth 100000 in
theorem kd_X12_feed : Cond.code yX12_feed cX12_feed 6 (some .int) ∈ tb := tb_mem 1208 rfl rfl
set_option maxRecDepth 100000 in
theorem km_X12_206 : Cond.methodLink RX12 206 yX12_lay ∈ tb := tb_mem 1209 (by decide +kernel) rfl
set_option maxRecDepth 100000 in
theorem kj_X12_lay : Cond.instanceMethod yX12_lay ∈ tb := tb_mem 1211 (by decide +kernel) rfl
set_option maxRecDepth 100000 in
theorem kd_X12_lay : Cond.code yX12_lay cX12_lay 3 none ∈ tb := tb_mem 1212 rfl rfl
set_option maxRecDepth 100000 in
theorem km_L_22 : Cond.methodLink RL 22 yX12_end ∈ tb := tb_mem 1213 (by decide +kernel) rfl
set_option maxRecDepth 100000 in
theorem kj_X12_end : Cond.instanceMethod yX12_end ∈ tb := tb_mem 1214 (by decide +kernel) rfl
set_option maxRecDepth 100000 in
theorem kl_X12_end : Cond.selects RX12 yX12_end yX12_end ∈ tb := tb_mem 1215 (by decide +kernel) rfl
set_option maxRecDepth 100000 in
theorem kd_X12_end : Cond.code yX12_end cX12_end 2 (some .int) ∈ tb := tb_mem 1216 rfl rfl
set_option maxRecDepth 100000 in
theorem km_X12_58 : Cond.methodLink RX12 58 yX12_in ∈ tb := tb_mem 1217 (by decide +kernel) rfl
set_option maxRecDepth 100000 in
theorem ks_X12_in : Cond.static yX12_in ∈ tb := tb_mem 1218 (by decide +kernel) rfl
set_option maxRecDepth 100000 in
theorem kd_X12_in : Cond.code yX12_in cX12_in 6 (some .boolean) ∈ tb := tb_mem 1219 rfl rfl
set_option maxRecDepth 100000 in
theorem km_L_27 : Cond.methodLink RL 27 yX12_trust ∈ tb := tb_mem 1220 (by decide +kernel) rfl
set_option maxRecDepth 100000 in
theorem kj_X12_trust : Cond.instanceMethod yX12_trust ∈ tb := tb_mem 1221 (by decide +kernel) rfl
set_option maxRecDepth 100000 in
theorem kl_X12_trust : Cond.selects RX12 yX12_trust yX12_trust ∈ tb := tb_mem 1222 (by decide +kernel) rfl
set_option maxRecDepth 100000 in
theorem kd_X12_trust : Cond.codeWith yX12_trust cX12_trust 3 (some .int) [((28), (37), (40), (117))] ∈ tb := tb_mem 1223 rfl rfl
set_option maxRecDepth 100000 in
theorem km_X12_62 : Cond.methodLink RX12 62 yX12_scan ∈ tb := tb_mem 1224 (by decide +kernel) rfl
set_option maxRecDepth 100000 in
theorem kj_X12_scan : Cond.instanceMethod yX12_scan ∈ tb := tb_mem 1226 (by decide +kernel) rfl
set_option maxRecDepth 100000 in
theorem kd_X12_scan : Cond.code yX12_scan cX12_scan 2 none ∈ tb := tb_mem 1227 rfl rfl
set_option maxRecDepth 100000 in
theorem km_X12_27 : Cond.methodLink RX12 27 yX12_byteAt ∈ tb := tb_mem 1228 (by decide +kernel) rfl
set_option maxRecDepth 100000 in
theorem kj_X12_byteAt : Cond.instanceMethod yX12_byteAt ∈ tb := tb_mem 1230 (by decide +kernel) rfl
set_option maxRecDepth 100000 in
theorem kd_X12_byteAt : Cond.code yX12_byteAt cX12_byteAt 2 (some .int) ∈ tb := tb_mem 1231 rfl rfl
set_option maxRecDepth 100000 in
theorem km_X12_34 : Cond.methodLink RX12 34 yX12_isLetter ∈ tb := tb_mem 1232 (by decide +kernel) rfl
set_option maxRecDepth 100000 in
theorem ks_X12_isLetter : Cond.static yX12_isLetter ∈ tb := tb_mem 1233 (by decide +kernel) rfl
set_option maxRecDepth 100000 in
theorem kd_X12_isLetter : Cond.code yX12_isLetter cX12_isLetter 1 (some .boolean) ∈ tb := tb_mem 1234 rfl rfl
set_option maxRecDepth 100000 in
theorem km_X12_38 : Cond.methodLink RX12 38 yX12_isDigit ∈ tb := tb_mem 1235 (by decide +kernel) rfl
set_option maxRecDepth 100000 in
theorem ks_X12_isDigit : Cond.static yX12_isDigit ∈ tb := tb_mem 1236 (by decide +kernel) rfl
set_option maxRecDepth 100000 in
theorem kd_X12_isDigit : Cond.code yX12_isDigit cX12_isDigit 1 (some .boolean) ∈ tb := tb_mem 1237 rfl rfl
set_option maxRecDepth 100000 in
theorem km_X12_209 : Cond.methodLink RX12 209 yX12_readTrust ∈ tb := tb_mem 1238 (by decide +kernel) rfl
set_option maxRecDepth 100000 in
theorem kj_X12_readTrust : Cond.instanceMethod yX12_readTrust ∈ tb := tb_mem 1240 (by decide +kernel) rfl
set_option maxRecDepth 100000 in
theorem kd_X12_readTrust : Cond.code yX12_readTrust cX12_readTrust 3 (some .int) ∈ tb := tb_mem 1241 rfl rfl
set_option maxRecDepth 100000 in
theorem km_X12_93 : Cond.methodLink RX12 93 yX12_key ∈ tb := tb_mem 1242 (by decide +kernel) rfl
set_option maxRecDepth 100000 in
theorem kj_X12_key : Cond.instanceMethod yX12_key ∈ tb := tb_mem 1244 (by decide +kernel) rfl
set_option maxRecDepth 100000 in
theorem kd_X12_key : Cond.code yX12_key cX12_key 1 (some .int) ∈ tb := tb_mem 1245 rfl rfl
set_option maxRecDepth 100000 in
theorem km_X12_68 : Cond.methodLink RX12 68 yX12_is ∈ tb := tb_mem 1247 (by decide +kernel) rfl
set_option maxRecDepth 100000 in
theorem kj_X12_is : Cond.instanceMethod yX12_is ∈ tb := tb_mem 1249 (by decide +kernel) rfl
set_option maxRecDepth 100000 in
theorem kd_X12_is : Cond.code yX12_is cX12_is 4 (some .boolean) ∈ tb := tb_mem 1250 rfl rfl
set_option maxRecDepth 100000 in
theorem km_X12_44 : Cond.methodLink RX12 44 yJ0_length_8abf5 ∈ tb := tb_mem 1251 (by decide +kernel) rfl
set_option maxRecDepth 100000 in
theorem km_X12_50 : Cond.methodLink RX12 50 yJ0_charAt_5068e ∈ tb := tb_mem 1252 (by decide +kernel) rfl
set_option maxRecDepth 100000 in
theorem km_X12_54 : Cond.methodLink RX12 54 yX12_wrong ∈ tb := tb_mem 1258 (by decide +kernel) rfl
set_option maxRecDepth 100000 in
theorem kj_X12_wrong : Cond.instanceMethod yX12_wrong ∈ tb := tb_mem 1260 (by decide +kernel) rfl
set_option maxRecDepth 100000 in
theorem kd_X12_wrong : Cond.code yX12_wrong cX12_wrong 2 (some (.object "TowerAppealModel$Stop")) ∈ tb := tb_mem 1261 rfl rfl
set_option maxRecDepth 100000 in
theorem km_X12_96 : Cond.methodLink RX12 96 yX12_readLine ∈ tb := tb_mem 1262 (by decide +kernel) rfl
set_option maxRecDepth 100000 in
theorem kj_X12_readLine : Cond.instanceMethod yX12_readLine ∈ tb := tb_mem 1264 (by decide +kernel) rfl
set_option maxRecDepth 100000 in
theorem kd_X12_readLine : Cond.code yX12_readLine cX12_readLine 2 none ∈ tb := tb_mem 1265 rfl rfl
set_option maxRecDepth 100000 in
theorem km_X12_100 : Cond.methodLink RX12 100 yX12_number ∈ tb := tb_mem 1266 (by decide +kernel) rfl
set_option maxRecDepth 100000 in
theorem kj_X12_number : Cond.instanceMethod yX12_number ∈ tb := tb_mem 1268 (by decide +kernel) rfl
set_option maxRecDepth 100000 in
theorem kd_X12_number : Cond.code yX12_number cX12_number 4 (some .int) ∈ tb := tb_mem 1269 rfl rfl
set_option maxRecDepth 100000 in
theorem kk_X12_104 : Cond.constant RX12 104 (999999 : Int32) ∈ tb := tb_mem 1270 (by decide +kernel) rfl
set_option maxRecDepth 100000 in
theorem km_L_31 : Cond.methodLink RL 31 yX12_fault ∈ tb := tb_mem 1273 (by decide +kernel) rfl
set_option maxRecDepth 100000 in
theorem kj_X12_fault : Cond.instanceMethod yX12_fault ∈ tb := tb_mem 1274 (by decide +kernel) rfl
set_option maxRecDepth 100000 in
theorem kl_X12_fault : Cond.selects RX12 yX12_fault yX12_fault ∈ tb := tb_mem 1275 (by decide +kernel) rfl
set_option maxRecDepth 100000 in
theorem kd_X12_fault : Cond.code yX12_fault cX12_fault 2 (some .int) ∈ tb := tb_mem 1276 rfl rfl
set_option maxRecDepth 100000 in
theorem km_L_35 : Cond.methodLink RL 35 yX12_rule ∈ tb := tb_mem 1277 (by decide +kernel) rfl
set_option maxRecDepth 100000 in
theorem kj_X12_rule : Cond.instanceMethod yX12_rule ∈ tb := tb_mem 1278 (by decide +kernel) rfl
set_option maxRecDepth 100000 in
theorem kl_X12_rule : Cond.selects RX12 yX12_rule yX12_rule ∈ tb := tb_mem 1279 (by decide +kernel) rfl
set_option maxRecDepth 100000 in
theorem kd_X12_rule : Cond.code yX12_rule cX12_rule 2 (some .int) ∈ tb := tb_mem 1280 rfl rfl
set_option maxRecDepth 100000 in
theorem kk_X12_212 : Cond.constantLong RX12 212 (8 : Int64) ∈ tb := tb_mem 1281 (by decide +kernel) rfl
set_option maxRecDepth 100000 in
theorem km_L_40 : Cond.methodLink RL 40 yX12_declare ∈ tb := tb_mem 1282 (by decide +kernel) rfl
set_option maxRecDepth 100000 in
theorem kj_X12_declare : Cond.instanceMethod yX12_declare ∈ tb := tb_mem 1283 (by decide +kernel) rfl
set_option maxRecDepth 100000 in
theorem kl_X12_declare : Cond.selects RX12 yX12_declare yX12_declare ∈ tb := tb_mem 1284 (by decide +kernel) rfl
set_option maxRecDepth 100000 in
theorem kd_X12_declare : Cond.code yX12_declare cX12_declare 4 (some .int) ∈ tb := tb_mem 1285 rfl rfl
set_option maxRecDepth 100000 in
theorem km_X12_218 : Cond.methodLink RX12 218 yX12_isGiver ∈ tb := tb_mem 1286 (by decide +kernel) rfl
set_option maxRecDepth 100000 in
theorem ks_X12_isGiver : Cond.static yX12_isGiver ∈ tb := tb_mem 1287 (by decide +kernel) rfl
set_option maxRecDepth 100000 in
theorem kd_X12_isGiver : Cond.code yX12_isGiver cX12_isGiver 1 (some .boolean) ∈ tb := tb_mem 1288 rfl rfl
set_option maxRecDepth 100000 in
theorem kk_X12_214 : Cond.constantLong RX12 214 (29 : Int64) ∈ tb := tb_mem 1289 (by decide +kernel) rfl
set_option maxRecDepth 100000 in
theorem km_X12_221 : Cond.methodLink RX12 221 yX12_isMonth ∈ tb := tb_mem 1290 (by decide +kernel) rfl
set_option maxRecDepth 100000 in
theorem ks_X12_isMonth : Cond.static yX12_isMonth ∈ tb := tb_mem 1291 (by decide +kernel) rfl
set_option maxRecDepth 100000 in
theorem kd_X12_isMonth : Cond.code yX12_isMonth cX12_isMonth 1 (some .boolean) ∈ tb := tb_mem 1292 rfl rfl
set_option maxRecDepth 100000 in
theorem kk_X12_216 : Cond.constantLong RX12 216 (119 : Int64) ∈ tb := tb_mem 1293 (by decide +kernel) rfl
set_option maxRecDepth 100000 in
theorem km_L_45 : Cond.methodLink RL 45 yX12_nameless ∈ tb := tb_mem 1294 (by decide +kernel) rfl
set_option maxRecDepth 100000 in
theorem kj_X12_nameless : Cond.instanceMethod yX12_nameless ∈ tb := tb_mem 1295 (by decide +kernel) rfl
set_option maxRecDepth 100000 in
theorem kl_X12_nameless : Cond.selects RX12 yX12_nameless yX12_nameless ∈ tb := tb_mem 1296 (by decide +kernel) rfl
set_option maxRecDepth 100000 in
theorem kd_X12_nameless : Cond.code yX12_nameless cX12_nameless 4 (some .int) ∈ tb := tb_mem 1297 rfl rfl
set_option maxRecDepth 100000 in
theorem km_L_49 : Cond.methodLink RL 49 yX12_pledge ∈ tb := tb_mem 1298 (by decide +kernel) rfl
set_option maxRecDepth 100000 in
theorem kj_X12_pledge : Cond.instanceMethod yX12_pledge ∈ tb := tb_mem 1299 (by decide +kernel) rfl
set_option maxRecDepth 100000 in
theorem kl_X12_pledge : Cond.selects RX12 yX12_pledge yX12_pledge ∈ tb := tb_mem 1300 (by decide +kernel) rfl
set_option maxRecDepth 100000 in
theorem kd_X12_pledge : Cond.code yX12_pledge cX12_pledge 8 (some .int) ∈ tb := tb_mem 1301 rfl rfl
set_option maxRecDepth 100000 in
theorem kk_X12_228 : Cond.constantLong RX12 228 (100000 : Int64) ∈ tb := tb_mem 1302 (by decide +kernel) rfl
set_option maxRecDepth 100000 in
theorem kk_X12_233 : Cond.constantLong RX12 233 (12 : Int64) ∈ tb := tb_mem 1303 (by decide +kernel) rfl
set_option maxRecDepth 100000 in
theorem kk_X12_235 : Cond.constantLong RX12 235 (84 : Int64) ∈ tb := tb_mem 1304 (by decide +kernel) rfl
set_option maxRecDepth 100000 in
theorem km_X12_240 : Cond.methodLink RX12 240 yX12_monthOf ∈ tb := tb_mem 1305 (by decide +kernel) rfl
set_option maxRecDepth 100000 in
theorem kj_X12_monthOf : Cond.instanceMethod yX12_monthOf ∈ tb := tb_mem 1307 (by decide +kernel) rfl
set_option maxRecDepth 100000 in
theorem kd_X12_monthOf : Cond.code yX12_monthOf cX12_monthOf 3 (some .int) ∈ tb := tb_mem 1308 rfl rfl
set_option maxRecDepth 100000 in
theorem km_L_54 : Cond.methodLink RL 54 yX12_change ∈ tb := tb_mem 1309 (by decide +kernel) rfl
set_option maxRecDepth 100000 in
theorem kj_X12_change : Cond.instanceMethod yX12_change ∈ tb := tb_mem 1310 (by decide +kernel) rfl
set_option maxRecDepth 100000 in
theorem kl_X12_change : Cond.selects RX12 yX12_change yX12_change ∈ tb := tb_mem 1311 (by decide +kernel) rfl
set_option maxRecDepth 100000 in
theorem kd_X12_change : Cond.code yX12_change cX12_change 4 (some .int) ∈ tb := tb_mem 1312 rfl rfl
set_option maxRecDepth 100000 in
theorem km_X12_243 : Cond.methodLink RX12 243 yX12_isPledge ∈ tb := tb_mem 1313 (by decide +kernel) rfl
set_option maxRecDepth 100000 in
theorem kj_X12_isPledge : Cond.instanceMethod yX12_isPledge ∈ tb := tb_mem 1315 (by decide +kernel) rfl
set_option maxRecDepth 100000 in
theorem kd_X12_isPledge : Cond.code yX12_isPledge cX12_isPledge 2 (some .boolean) ∈ tb := tb_mem 1316 rfl rfl
set_option maxRecDepth 100000 in
theorem km_L_58 : Cond.methodLink RL 58 yX12_pay ∈ tb := tb_mem 1317 (by decide +kernel) rfl
set_option maxRecDepth 100000 in
theorem kj_X12_pay : Cond.instanceMethod yX12_pay ∈ tb := tb_mem 1318 (by decide +kernel) rfl
set_option maxRecDepth 100000 in
theorem kl_X12_pay : Cond.selects RX12 yX12_pay yX12_pay ∈ tb := tb_mem 1319 (by decide +kernel) rfl
set_option maxRecDepth 100000 in
theorem kd_X12_pay : Cond.code yX12_pay cX12_pay 6 (some .int) ∈ tb := tb_mem 1320 rfl rfl
set_option maxRecDepth 100000 in
theorem kk_X12_265 : Cond.constantLong RX12 265 (5000000 : Int64) ∈ tb := tb_mem 1321 (by decide +kernel) rfl
set_option maxRecDepth 100000 in
theorem km_X12_267 : Cond.methodLink RX12 267 yX12_unfilled ∈ tb := tb_mem 1322 (by decide +kernel) rfl
set_option maxRecDepth 100000 in
theorem kj_X12_unfilled : Cond.instanceMethod yX12_unfilled ∈ tb := tb_mem 1324 (by decide +kernel) rfl
set_option maxRecDepth 100000 in
theorem kd_X12_unfilled : Cond.code yX12_unfilled cX12_unfilled 4 (some .int) ∈ tb := tb_mem 1325 rfl rfl
set_option maxRecDepth 100000 in
theorem km_X12_254 : Cond.methodLink RX12 254 yJ9_min_7cf53 ∈ tb := tb_mem 1326 (by decide +kernel) rfl
set_option maxRecDepth 100000 in
theorem km_X12_270 : Cond.methodLink RX12 270 yX12_come ∈ tb := tb_mem 1327 (by decide +kernel) rfl
set_option maxRecDepth 100000 in
theorem kj_X12_come : Cond.instanceMethod yX12_come ∈ tb := tb_mem 1329 (by decide +kernel) rfl
set_option maxRecDepth 100000 in
theorem kd_X12_come : Cond.code yX12_come cX12_come 4 (some .int) ∈ tb := tb_mem 1330 rfl rfl
set_option maxRecDepth 100000 in
theorem kk_X12_249 : Cond.constantLong RX12 249 (100 : Int64) ∈ tb := tb_mem 1331 (by decide +kernel) rfl
set_option maxRecDepth 100000 in
theorem km_X12_259 : Cond.methodLink RX12 259 yJ9_max_7cf53 ∈ tb := tb_mem 1332 (by decide +kernel) rfl
set_option maxRecDepth 100000 in
theorem ks_J9_max_7cf53 : Cond.static yJ9_max_7cf53 ∈ tb := tb_mem 1333 (by decide +kernel) rfl
set_option maxRecDepth 100000 in
theorem kd_J9_max_7cf53 : Cond.code yJ9_max_7cf53 cJ9_max_7cf53 2 (some .int) ∈ tb := tb_mem 1334 rfl rfl
set_option maxRecDepth 100000 in
theorem km_L_62 : Cond.methodLink RL 62 yX12_gift ∈ tb := tb_mem 1335 (by decide +kernel) rfl
set_option maxRecDepth 100000 in
theorem kj_X12_gift : Cond.instanceMethod yX12_gift ∈ tb := tb_mem 1336 (by decide +kernel) rfl
set_option maxRecDepth 100000 in
theorem kl_X12_gift : Cond.selects RX12 yX12_gift yX12_gift ∈ tb := tb_mem 1337 (by decide +kernel) rfl
set_option maxRecDepth 100000 in
theorem kd_X12_gift : Cond.code yX12_gift cX12_gift 3 (some .int) ∈ tb := tb_mem 1338 rfl rfl
set_option maxRecDepth 100000 in
theorem km_L_66 : Cond.methodLink RL 66 yX12_takeUp ∈ tb := tb_mem 1339 (by decide +kernel) rfl
set_option maxRecDepth 100000 in
theorem kj_X12_takeUp : Cond.instanceMethod yX12_takeUp ∈ tb := tb_mem 1340 (by decide +kernel) rfl
set_option maxRecDepth 100000 in
theorem kl_X12_takeUp : Cond.selects RX12 yX12_takeUp yX12_takeUp ∈ tb := tb_mem 1341 (by decide +kernel) rfl
set_option maxRecDepth 100000 in
theorem kd_X12_takeUp : Cond.code yX12_takeUp cX12_takeUp 3 (some .int) ∈ tb := tb_mem 1342 rfl rfl
set_option maxRecDepth 100000 in
theorem km_X12_273 : Cond.methodLink RX12 273 yX12_toCome ∈ tb := tb_mem 1343 (by decide +kernel) rfl
set_option maxRecDepth 100000 in
theorem kj_X12_toCome : Cond.instanceMethod yX12_toCome ∈ tb := tb_mem 1345 (by decide +kernel) rfl
set_option maxRecDepth 100000 in
theorem kd_X12_toCome : Cond.code yX12_toCome cX12_toCome 4 (some .int) ∈ tb := tb_mem 1346 rfl rfl
set_option maxRecDepth 100000 in
theorem km_L_70 : Cond.methodLink RL 70 yX12_claim ∈ tb := tb_mem 1347 (by decide +kernel) rfl
set_option maxRecDepth 100000 in
theorem kj_X12_claim : Cond.instanceMethod yX12_claim ∈ tb := tb_mem 1348 (by decide +kernel) rfl
set_option maxRecDepth 100000 in
theorem kl_X12_claim : Cond.selects RX12 yX12_claim yX12_claim ∈ tb := tb_mem 1349 (by decide +kernel) rfl
set_option maxRecDepth 100000 in
theorem kd_X12_claim : Cond.code yX12_claim cX12_claim 4 (some .int) ∈ tb := tb_mem 1350 rfl rfl
set_option maxRecDepth 100000 in
theorem km_L_74 : Cond.methodLink RL 74 yX12_about ∈ tb := tb_mem 1351 (by decide +kernel) rfl
set_option maxRecDepth 100000 in
theorem kj_X12_about : Cond.instanceMethod yX12_about ∈ tb := tb_mem 1352 (by decide +kernel) rfl
set_option maxRecDepth 100000 in
theorem kl_X12_about : Cond.selects RX12 yX12_about yX12_about ∈ tb := tb_mem 1353 (by decide +kernel) rfl
set_option maxRecDepth 100000 in
theorem kd_X12_about : Cond.code yX12_about cX12_about 5 (some .int) ∈ tb := tb_mem 1354 rfl rfl
set_option maxRecDepth 100000 in
theorem km_X12_279 : Cond.methodLink RX12 279 yX12_overdue ∈ tb := tb_mem 1355 (by decide +kernel) rfl
set_option maxRecDepth 100000 in
theorem kj_X12_overdue : Cond.instanceMethod yX12_overdue ∈ tb := tb_mem 1357 (by decide +kernel) rfl
set_option maxRecDepth 100000 in
theorem kd_X12_overdue : Cond.code yX12_overdue cX12_overdue 4 (some .int) ∈ tb := tb_mem 1358 rfl rfl
set_option maxRecDepth 100000 in
theorem km_L_78 : Cond.methodLink RL 78 yX12_giver ∈ tb := tb_mem 1359 (by decide +kernel) rfl
set_option maxRecDepth 100000 in
theorem kj_X12_giver : Cond.instanceMethod yX12_giver ∈ tb := tb_mem 1360 (by decide +kernel) rfl
set_option maxRecDepth 100000 in
theorem kl_X12_giver : Cond.selects RX12 yX12_giver yX12_giver ∈ tb := tb_mem 1361 (by decide +kernel) rfl
set_option maxRecDepth 100000 in
theorem kd_X12_giver : Cond.code yX12_giver cX12_giver 5 (some .int) ∈ tb := tb_mem 1362 rfl rfl
set_option maxRecDepth 100000 in
theorem km_L_82 : Cond.methodLink RL 82 yX12_stage ∈ tb := tb_mem 1363 (by decide +kernel) rfl
set_option maxRecDepth 100000 in
theorem kj_X12_stage : Cond.instanceMethod yX12_stage ∈ tb := tb_mem 1364 (by decide +kernel) rfl
set_option maxRecDepth 100000 in
theorem kl_X12_stage : Cond.selects RX12 yX12_stage yX12_stage ∈ tb := tb_mem 1365 (by decide +kernel) rfl
set_option maxRecDepth 100000 in
theorem kd_X12_stage : Cond.code yX12_stage cX12_stage 3 (some .int) ∈ tb := tb_mem 1366 rfl rfl
set_option maxRecDepth 100000 in
theorem kk_X12_282 : Cond.constantLong RX12 282 (100000000 : Int64) ∈ tb := tb_mem 1367 (by decide +kernel) rfl
set_option maxRecDepth 100000 in
theorem kk_X12_284 : Cond.constantLong RX12 284 (24 : Int64) ∈ tb := tb_mem 1368 (by decide +kernel) rfl
set_option maxRecDepth 100000 in
theorem km_L_86 : Cond.methodLink RL 86 yX12_begin ∈ tb := tb_mem 1369 (by decide +kernel) rfl
set_option maxRecDepth 100000 in
theorem kj_X12_begin : Cond.instanceMethod yX12_begin ∈ tb := tb_mem 1370 (by decide +kernel) rfl
set_option maxRecDepth 100000 in
theorem kl_X12_begin : Cond.selects RX12 yX12_begin yX12_begin ∈ tb := tb_mem 1371 (by decide +kernel) rfl
set_option maxRecDepth 100000 in
theorem kd_X12_begin : Cond.code yX12_begin cX12_begin 1 (some .int) ∈ tb := tb_mem 1372 rfl rfl
set_option maxRecDepth 100000 in
theorem km_X12_292 : Cond.methodLink RX12 292 yX12_runs ∈ tb := tb_mem 1373 (by decide +kernel) rfl
set_option maxRecDepth 100000 in
theorem kj_X12_runs : Cond.instanceMethod yX12_runs ∈ tb := tb_mem 1375 (by decide +kernel) rfl
set_option maxRecDepth 100000 in
theorem kd_X12_runs : Cond.code yX12_runs cX12_runs 1 (some .boolean) ∈ tb := tb_mem 1376 rfl rfl
set_option maxRecDepth 100000 in
theorem km_L_90 : Cond.methodLink RL 90 yX12_built ∈ tb := tb_mem 1377 (by decide +kernel) rfl
set_option maxRecDepth 100000 in
theorem kj_X12_built : Cond.instanceMethod yX12_built ∈ tb := tb_mem 1378 (by decide +kernel) rfl
set_option maxRecDepth 100000 in
theorem kl_X12_built : Cond.selects RX12 yX12_built yX12_built ∈ tb := tb_mem 1379 (by decide +kernel) rfl
set_option maxRecDepth 100000 in
theorem kd_X12_built : Cond.code yX12_built cX12_built 3 (some .int) ∈ tb := tb_mem 1380 rfl rfl
set_option maxRecDepth 100000 in
theorem km_L_94 : Cond.methodLink RL 94 yX12_months ∈ tb := tb_mem 1381 (by decide +kernel) rfl
set_option maxRecDepth 100000 in
theorem kj_X12_months : Cond.instanceMethod yX12_months ∈ tb := tb_mem 1382 (by decide +kernel) rfl
set_option maxRecDepth 100000 in
theorem kl_X12_months : Cond.selects RX12 yX12_months yX12_months ∈ tb := tb_mem 1383 (by decide +kernel) rfl
set_option maxRecDepth 100000 in
theorem kd_X12_months : Cond.code yX12_months cX12_months 3 (some .int) ∈ tb := tb_mem 1384 rfl rfl
set_option maxRecDepth 100000 in
theorem km_X12_311 : Cond.methodLink RX12 311 yX12_endMonth ∈ tb := tb_mem 1385 (by decide +kernel) rfl
set_option maxRecDepth 100000 in
theorem kj_X12_endMonth : Cond.instanceMethod yX12_endMonth ∈ tb := tb_mem 1387 (by decide +kernel) rfl
set_option maxRecDepth 100000 in
theorem kd_X12_endMonth : Cond.code yX12_endMonth cX12_endMonth 3 none ∈ tb := tb_mem 1388 rfl rfl
set_option maxRecDepth 100000 in
theorem km_X12_301 : Cond.methodLink RX12 301 yX12_lapse ∈ tb := tb_mem 1389 (by decide +kernel) rfl
set_option maxRecDepth 100000 in
theorem kj_X12_lapse : Cond.instanceMethod yX12_lapse ∈ tb := tb_mem 1391 (by decide +kernel) rfl
set_option maxRecDepth 100000 in
theorem kd_X12_lapse : Cond.code yX12_lapse cX12_lapse 4 none ∈ tb := tb_mem 1392 rfl rfl
set_option maxRecDepth 100000 in
theorem kk_X12_303 : Cond.constantLong RX12 303 (1000 : Int64) ∈ tb := tb_mem 1393 (by decide +kernel) rfl
set_option maxRecDepth 100000 in
theorem km_X12_308 : Cond.methodLink RX12 308 yX12_build ∈ tb := tb_mem 1394 (by decide +kernel) rfl
set_option maxRecDepth 100000 in
theorem kj_X12_build : Cond.instanceMethod yX12_build ∈ tb := tb_mem 1396 (by decide +kernel) rfl
set_option maxRecDepth 100000 in
theorem kd_X12_build : Cond.code yX12_build cX12_build 6 none ∈ tb := tb_mem 1397 rfl rfl
set_option maxRecDepth 100000 in
theorem km_L_98 : Cond.methodLink RL 98 yX12_sure ∈ tb := tb_mem 1398 (by decide +kernel) rfl
set_option maxRecDepth 100000 in
theorem kj_X12_sure : Cond.instanceMethod yX12_sure ∈ tb := tb_mem 1399 (by decide +kernel) rfl
set_option maxRecDepth 100000 in
theorem kl_X12_sure : Cond.selects RX12 yX12_sure yX12_sure ∈ tb := tb_mem 1400 (by decide +kernel) rfl
set_option maxRecDepth 100000 in
theorem kd_X12_sure : Cond.code yX12_sure cX12_sure 12 (some .int) ∈ tb := tb_mem 1401 rfl rfl
set_option maxRecDepth 100000 in
theorem km_L_102 : Cond.methodLink RL 102 yX12_stone ∈ tb := tb_mem 1402 (by decide +kernel) rfl
set_option maxRecDepth 100000 in
theorem kj_X12_stone : Cond.instanceMethod yX12_stone ∈ tb := tb_mem 1403 (by decide +kernel) rfl
set_option maxRecDepth 100000 in
theorem kl_X12_stone : Cond.selects RX12 yX12_stone yX12_stone ∈ tb := tb_mem 1404 (by decide +kernel) rfl
set_option maxRecDepth 100000 in
theorem kd_X12_stone : Cond.code yX12_stone cX12_stone 2 (some .int) ∈ tb := tb_mem 1405 rfl rfl
set_option maxRecDepth 100000 in
theorem km_X12_314 : Cond.methodLink RX12 314 yX12_carve ∈ tb := tb_mem 1406 (by decide +kernel) rfl
set_option maxRecDepth 100000 in
theorem kj_X12_carve : Cond.instanceMethod yX12_carve ∈ tb := tb_mem 1408 (by decide +kernel) rfl
set_option maxRecDepth 100000 in
theorem kd_X12_carve : Cond.code yX12_carve cX12_carve 5 (some .int) ∈ tb := tb_mem 1409 rfl rfl
set_option maxRecDepth 100000 in
theorem km_L_106 : Cond.methodLink RL 106 yX12_stop ∈ tb := tb_mem 1410 (by decide +kernel) rfl
set_option maxRecDepth 100000 in
theorem kj_X12_stop : Cond.instanceMethod yX12_stop ∈ tb := tb_mem 1411 (by decide +kernel) rfl
set_option maxRecDepth 100000 in
theorem kl_X12_stop : Cond.selects RX12 yX12_stop yX12_stop ∈ tb := tb_mem 1412 (by decide +kernel) rfl
set_option maxRecDepth 100000 in
theorem kd_X12_stop : Cond.code yX12_stop cX12_stop 4 (some .int) ∈ tb := tb_mem 1413 rfl rfl
set_option maxRecDepth 100000 in
theorem km_X12_317 : Cond.methodLink RX12 317 yX12_allGiven ∈ tb := tb_mem 1414 (by decide +kernel) rfl
set_option maxRecDepth 100000 in
theorem kj_X12_allGiven : Cond.instanceMethod yX12_allGiven ∈ tb := tb_mem 1416 (by decide +kernel) rfl
set_option maxRecDepth 100000 in
theorem kd_X12_allGiven : Cond.code yX12_allGiven cX12_allGiven 3 (some .int) ∈ tb := tb_mem 1417 rfl rfl
set_option maxRecDepth 100000 in
theorem km_L_110 : Cond.methodLink RL 110 yX12_back ∈ tb := tb_mem 1418 (by decide +kernel) rfl
set_option maxRecDepth 100000 in
theorem kj_X12_back : Cond.instanceMethod yX12_back ∈ tb := tb_mem 1419 (by decide +kernel) rfl
set_option maxRecDepth 100000 in
theorem kl_X12_back : Cond.selects RX12 yX12_back yX12_back ∈ tb := tb_mem 1420 (by decide +kernel) rfl
set_option maxRecDepth 100000 in
theorem kd_X12_back : Cond.code yX12_back cX12_back 2 (some .int) ∈ tb := tb_mem 1421 rfl rfl
set_option maxRecDepth 100000 in
theorem km_L_114 : Cond.methodLink RL 114 yX12_count ∈ tb := tb_mem 1422 (by decide +kernel) rfl
set_option maxRecDepth 100000 in
theorem kj_X12_count : Cond.instanceMethod yX12_count ∈ tb := tb_mem 1423 (by decide +kernel) rfl
set_option maxRecDepth 100000 in
theorem kl_X12_count : Cond.selects RX12 yX12_count yX12_count ∈ tb := tb_mem 1424 (by decide +kernel) rfl
set_option maxRecDepth 100000 in
theorem kd_X12_count : Cond.code yX12_count cX12_count 4 (some .int) ∈ tb := tb_mem 1425 rfl rfl
set_option maxRecDepth 100000 in
theorem kf_J0_9 : Cond.fieldLink RJ0 9 "java/lang/String" "value" "[B" ∈ tb := tb_mem 1427 (by decide +kernel) rfl
set_option maxRecDepth 100000 in
theorem kf_J0_15 : Cond.fieldLink RJ0 15 "java/lang/String" "coder" "B" ∈ tb := tb_mem 1428 (by decide +kernel) rfl

