/-! each instruction is that of the bytes -/
set_option maxRecDepth 100000 in
theorem an_ok_X0_init : ak_M an_ta an_kd an_lk an_on an_X0_init = true := by decide +kernel
set_option maxRecDepth 100000 in
theorem an_ok_X0_has : ak_M an_ta an_kd an_lk an_on an_X0_has = true := by decide +kernel
set_option maxRecDepth 100000 in
theorem an_ok_X0_far : ak_M an_ta an_kd an_lk an_on an_X0_far = true := by decide +kernel
set_option maxRecDepth 100000 in
theorem an_ok_X0_areBeside : ak_M an_ta an_kd an_lk an_on an_X0_areBeside = true := by decide +kernel
set_option maxRecDepth 100000 in
theorem an_ok_X0_build : ak_M an_ta an_kd an_lk an_on an_X0_build = true := by decide +kernel
set_option maxRecDepth 100000 in
theorem an_ok_X0_tally : ak_M an_ta an_kd an_lk an_on an_X0_tally = true := by decide +kernel
set_option maxRecDepth 100000 in
theorem an_ok_X0_burns : ak_M an_ta an_kd an_lk an_on an_X0_burns = true := by decide +kernel
set_option maxRecDepth 100000 in
theorem an_ok_X0_burningBeside : ak_M an_ta an_kd an_lk an_on an_X0_burningBeside = true := by decide +kernel
set_option maxRecDepth 100000 in
theorem an_ok_X0_wellNear : ak_M an_ta an_kd an_lk an_on an_X0_wellNear = true := by decide +kernel
set_option maxRecDepth 100000 in
theorem an_ok_X0_warmUp : ak_M an_ta an_kd an_lk an_on an_X0_warmUp = true := by decide +kernel
set_option maxRecDepth 100000 in
theorem an_ok_X0_heatAt : ak_M an_ta an_kd an_lk an_on an_X0_heatAt = true := by decide +kernel
set_option maxRecDepth 100000 in
theorem an_ok_X0_windFrom : ak_M an_ta an_kd an_lk an_on an_X0_windFrom = true := by decide +kernel
set_option maxRecDepth 100000 in
theorem an_ok_X1_init : ak_M an_ta an_kd an_lk an_on an_X1_init = true := by decide +kernel
set_option maxRecDepth 100000 in
theorem an_ok_X1_has : ak_M an_ta an_kd an_lk an_on an_X1_has = true := by decide +kernel
set_option maxRecDepth 100000 in
theorem an_ok_X1_enlist : ak_M an_ta an_kd an_lk an_on an_X1_enlist = true := by decide +kernel
set_option maxRecDepth 100000 in
theorem an_ok_X1_forget : ak_M an_ta an_kd an_lk an_on an_X1_forget = true := by decide +kernel
set_option maxRecDepth 100000 in
theorem an_ok_X1_bound : ak_M an_ta an_kd an_lk an_on an_X1_bound = true := by decide +kernel
set_option maxRecDepth 100000 in
theorem an_ok_X1_allQuarrels : ak_M an_ta an_kd an_lk an_on an_X1_allQuarrels = true := by decide +kernel
set_option maxRecDepth 100000 in
theorem an_ok_X2_init : ak_M an_ta an_kd an_lk an_on an_X2_init = true := by decide +kernel
set_option maxRecDepth 100000 in
theorem an_ok_X2_plan : ak_M an_ta an_kd an_lk an_on an_X2_plan = true := by decide +kernel
set_option maxRecDepth 100000 in
theorem an_ok_X2_addRow : ak_M an_ta an_kd an_lk an_on an_X2_addRow = true := by decide +kernel
set_option maxRecDepth 100000 in
theorem an_ok_X2_turn : ak_M an_ta an_kd an_lk an_on an_X2_turn = true := by decide +kernel
set_option maxRecDepth 100000 in
theorem an_ok_X2_search : ak_M an_ta an_kd an_lk an_on an_X2_search = true := by decide +kernel
set_option maxRecDepth 100000 in
theorem an_ok_X2_goOnFromEntry : ak_M an_ta an_kd an_lk an_on an_X2_goOnFromEntry = true := by decide +kernel
set_option maxRecDepth 100000 in
theorem an_ok_X2_goOnFromExit : ak_M an_ta an_kd an_lk an_on an_X2_goOnFromExit = true := by decide +kernel
set_option maxRecDepth 100000 in
theorem an_ok_X2_see : ak_M an_ta an_kd an_lk an_on an_X2_see = true := by decide +kernel
set_option maxRecDepth 100000 in
theorem an_ok_X2_isInSomeBreak : ak_M an_ta an_kd an_lk an_on an_X2_isInSomeBreak = true := by decide +kernel
set_option maxRecDepth 100000 in
theorem an_ok_X2_keep : ak_M an_ta an_kd an_lk an_on an_X2_keep = true := by decide +kernel
set_option maxRecDepth 100000 in
theorem an_ok_X3_init : ak_M an_ta an_kd an_lk an_on an_X3_init = true := by decide +kernel
set_option maxRecDepth 100000 in
theorem an_ok_X3_learn : ak_M an_ta an_kd an_lk an_on an_X3_learn = true := by decide +kernel
set_option maxRecDepth 100000 in
theorem an_ok_X3_apply : ak_M an_ta an_kd an_lk an_on an_X3_apply = true := by decide +kernel
set_option maxRecDepth 100000 in
theorem an_ok_X3_take : ak_M an_ta an_kd an_lk an_on an_X3_take = true := by decide +kernel
set_option maxRecDepth 100000 in
theorem an_ok_X3_join : ak_M an_ta an_kd an_lk an_on an_X3_join = true := by decide +kernel
set_option maxRecDepth 100000 in
theorem an_ok_X3_push : ak_M an_ta an_kd an_lk an_on an_X3_push = true := by decide +kernel
set_option maxRecDepth 100000 in
theorem an_ok_X3_pop : ak_M an_ta an_kd an_lk an_on an_X3_pop = true := by decide +kernel
set_option maxRecDepth 100000 in
theorem an_ok_X4_init : ak_M an_ta an_kd an_lk an_on an_X4_init = true := by decide +kernel
set_option maxRecDepth 100000 in
theorem an_ok_X4_enter : ak_M an_ta an_kd an_lk an_on an_X4_enter = true := by decide +kernel
set_option maxRecDepth 100000 in
theorem an_ok_X4_begin : ak_M an_ta an_kd an_lk an_on an_X4_begin = true := by decide +kernel
set_option maxRecDepth 100000 in
theorem an_ok_X4_inForce : ak_M an_ta an_kd an_lk an_on an_X4_inForce = true := by decide +kernel
set_option maxRecDepth 100000 in
theorem an_ok_X5_init : ak_M an_ta an_kd an_lk an_on an_X5_init = true := by decide +kernel
set_option maxRecDepth 100000 in
theorem an_ok_X5_reads : ak_M an_ta an_kd an_lk an_on an_X5_reads = true := by decide +kernel
set_option maxRecDepth 100000 in
theorem an_ok_X5_place : ak_M an_ta an_kd an_lk an_on an_X5_place = true := by decide +kernel
set_option maxRecDepth 100000 in
theorem an_ok_X5_readRule : ak_M an_ta an_kd an_lk an_on an_X5_readRule = true := by decide +kernel
set_option maxRecDepth 100000 in
theorem an_ok_X5_readExpr : ak_M an_ta an_kd an_lk an_on an_X5_readExpr = true := by decide +kernel
set_option maxRecDepth 100000 in
theorem an_ok_X5_readTest : ak_M an_ta an_kd an_lk an_on an_X5_readTest = true := by decide +kernel
set_option maxRecDepth 100000 in
theorem an_ok_X5_readSum : ak_M an_ta an_kd an_lk an_on an_X5_readSum = true := by decide +kernel
set_option maxRecDepth 100000 in
theorem an_ok_X5_readPart : ak_M an_ta an_kd an_lk an_on an_X5_readPart = true := by decide +kernel
set_option maxRecDepth 100000 in
theorem an_ok_X5_isNumberOrName : ak_M an_ta an_kd an_lk an_on an_X5_isNumberOrName = true := by decide +kernel
set_option maxRecDepth 100000 in
theorem an_ok_X5_beginsPart : ak_M an_ta an_kd an_lk an_on an_X5_beginsPart = true := by decide +kernel
set_option maxRecDepth 100000 in
theorem an_ok_X5_faultOfPart : ak_M an_ta an_kd an_lk an_on an_X5_faultOfPart = true := by decide +kernel
set_option maxRecDepth 100000 in
theorem an_ok_X5_fail : ak_M an_ta an_kd an_lk an_on an_X5_fail = true := by decide +kernel
set_option maxRecDepth 100000 in
theorem an_ok_X5_emit : ak_M an_ta an_kd an_lk an_on an_X5_emit = true := by decide +kernel
set_option maxRecDepth 100000 in
theorem an_ok_X5_advance : ak_M an_ta an_kd an_lk an_on an_X5_advance = true := by decide +kernel
set_option maxRecDepth 100000 in
theorem an_ok_X6_init : ak_M an_ta an_kd an_lk an_on an_X6_init = true := by decide +kernel
set_option maxRecDepth 100000 in
theorem an_ok_X6_put : ak_M an_ta an_kd an_lk an_on an_X6_put = true := by decide +kernel
set_option maxRecDepth 100000 in
theorem an_ok_X7_init : ak_M an_ta an_kd an_lk an_on an_X7_init = true := by decide +kernel
set_option maxRecDepth 100000 in
theorem an_ok_X7_scan : ak_M an_ta an_kd an_lk an_on an_X7_scan = true := by decide +kernel
set_option maxRecDepth 100000 in
theorem an_ok_X7_add : ak_M an_ta an_kd an_lk an_on an_X7_add = true := by decide +kernel
set_option maxRecDepth 100000 in
theorem an_ok_X7_takeToken : ak_M an_ta an_kd an_lk an_on an_X7_takeToken = true := by decide +kernel
set_option maxRecDepth 100000 in
theorem an_ok_X7_letterAt : ak_M an_ta an_kd an_lk an_on an_X7_letterAt = true := by decide +kernel
set_option maxRecDepth 100000 in
theorem an_ok_X7_digitAt : ak_M an_ta an_kd an_lk an_on an_X7_digitAt = true := by decide +kernel
set_option maxRecDepth 100000 in
theorem an_ok_X7_takeNumber : ak_M an_ta an_kd an_lk an_on an_X7_takeNumber = true := by decide +kernel
set_option maxRecDepth 100000 in
theorem an_ok_X7_takeWord : ak_M an_ta an_kd an_lk an_on an_X7_takeWord = true := by decide +kernel
set_option maxRecDepth 100000 in
theorem an_ok_X7_keyword : ak_M an_ta an_kd an_lk an_on an_X7_keyword = true := by decide +kernel
set_option maxRecDepth 100000 in
theorem an_ok_X7_nameWord : ak_M an_ta an_kd an_lk an_on an_X7_nameWord = true := by decide +kernel
set_option maxRecDepth 100000 in
theorem an_ok_X7_wordIs : ak_M an_ta an_kd an_lk an_on an_X7_wordIs = true := by decide +kernel
set_option maxRecDepth 100000 in
theorem an_ok_X7_signAt : ak_M an_ta an_kd an_lk an_on an_X7_signAt = true := by decide +kernel
set_option maxRecDepth 100000 in
theorem an_ok_X8_init : ak_M an_ta an_kd an_lk an_on an_X8_init = true := by decide +kernel
set_option maxRecDepth 100000 in
theorem an_ok_X8_stepTowards : ak_M an_ta an_kd an_lk an_on an_X8_stepTowards = true := by decide +kernel
set_option maxRecDepth 100000 in
theorem an_ok_X8_reckonSteps : ak_M an_ta an_kd an_lk an_on an_X8_reckonSteps = true := by decide +kernel
set_option maxRecDepth 100000 in
theorem an_ok_X8_spread : ak_M an_ta an_kd an_lk an_on an_X8_spread = true := by decide +kernel
set_option maxRecDepth 100000 in
theorem an_ok_X9_init : ak_M an_ta an_kd an_lk an_on an_X9_init = true := by decide +kernel
set_option maxRecDepth 100000 in
theorem an_ok_X9_house : ak_M an_ta an_kd an_lk an_on an_X9_house = true := by decide +kernel
set_option maxRecDepth 100000 in
theorem an_ok_X9_well : ak_M an_ta an_kd an_lk an_on an_X9_well = true := by decide +kernel
set_option maxRecDepth 100000 in
theorem an_ok_X9_wind : ak_M an_ta an_kd an_lk an_on an_X9_wind = true := by decide +kernel
set_option maxRecDepth 100000 in
theorem an_ok_X9_company : ak_M an_ta an_kd an_lk an_on an_X9_company = true := by decide +kernel
set_option maxRecDepth 100000 in
theorem an_ok_X9_feed : ak_M an_ta an_kd an_lk an_on an_X9_feed = true := by decide +kernel
set_option maxRecDepth 100000 in
theorem an_ok_X9_law : ak_M an_ta an_kd an_lk an_on an_X9_law = true := by decide +kernel
set_option maxRecDepth 100000 in
theorem an_ok_X9_fault : ak_M an_ta an_kd an_lk an_on an_X9_fault = true := by decide +kernel
set_option maxRecDepth 100000 in
theorem an_ok_X9_light : ak_M an_ta an_kd an_lk an_on an_X9_light = true := by decide +kernel
set_option maxRecDepth 100000 in
theorem an_ok_X9_send : ak_M an_ta an_kd an_lk an_on an_X9_send = true := by decide +kernel
set_option maxRecDepth 100000 in
theorem an_ok_X9_pull : ak_M an_ta an_kd an_lk an_on an_X9_pull = true := by decide +kernel
set_option maxRecDepth 100000 in
theorem an_ok_X9_hours : ak_M an_ta an_kd an_lk an_on an_X9_hours = true := by decide +kernel
set_option maxRecDepth 100000 in
theorem an_ok_X9_cell : ak_M an_ta an_kd an_lk an_on an_X9_cell = true := by decide +kernel
set_option maxRecDepth 100000 in
theorem an_ok_X9_of : ak_M an_ta an_kd an_lk an_on an_X9_of = true := by decide +kernel
set_option maxRecDepth 100000 in
theorem an_ok_X9_breaks : ak_M an_ta an_kd an_lk an_on an_X9_breaks = true := by decide +kernel
set_option maxRecDepth 100000 in
theorem an_ok_X9_breaker : ak_M an_ta an_kd an_lk an_on an_X9_breaker = true := by decide +kernel
set_option maxRecDepth 100000 in
theorem an_ok_X9_count : ak_M an_ta an_kd an_lk an_on an_X9_count = true := by decide +kernel
set_option maxRecDepth 100000 in
theorem an_ok_X9_needCell : ak_M an_ta an_kd an_lk an_on an_X9_needCell = true := by decide +kernel
set_option maxRecDepth 100000 in
theorem an_ok_X9_needCrew : ak_M an_ta an_kd an_lk an_on an_X9_needCrew = true := by decide +kernel
set_option maxRecDepth 100000 in
theorem an_ok_X9_isWard : ak_M an_ta an_kd an_lk an_on an_X9_isWard = true := by decide +kernel
set_option maxRecDepth 100000 in
theorem an_ok_X9_order : ak_M an_ta an_kd an_lk an_on an_X9_order = true := by decide +kernel
set_option maxRecDepth 100000 in
theorem an_ok_X9_passHour : ak_M an_ta an_kd an_lk an_on an_X9_passHour = true := by decide +kernel
set_option maxRecDepth 100000 in
theorem an_ok_X9_crewsGo : ak_M an_ta an_kd an_lk an_on an_X9_crewsGo = true := by decide +kernel
set_option maxRecDepth 100000 in
theorem an_ok_X9_giveRoofs : ak_M an_ta an_kd an_lk an_on an_X9_giveRoofs = true := by decide +kernel
set_option maxRecDepth 100000 in
theorem an_ok_X9_giveRoof : ak_M an_ta an_kd an_lk an_on an_X9_giveRoof = true := by decide +kernel
set_option maxRecDepth 100000 in
theorem an_ok_X9_crewsWork : ak_M an_ta an_kd an_lk an_on an_X9_crewsWork = true := by decide +kernel
set_option maxRecDepth 100000 in
theorem an_ok_X9_pullAt : ak_M an_ta an_kd an_lk an_on an_X9_pullAt = true := by decide +kernel
set_option maxRecDepth 100000 in
theorem an_ok_X9_fireEats : ak_M an_ta an_kd an_lk an_on an_X9_fireEats = true := by decide +kernel
set_option maxRecDepth 100000 in
theorem an_ok_X9_putOut : ak_M an_ta an_kd an_lk an_on an_X9_putOut = true := by decide +kernel
set_option maxRecDepth 100000 in
theorem an_ok_X9_leave : ak_M an_ta an_kd an_lk an_on an_X9_leave = true := by decide +kernel
set_option maxRecDepth 100000 in
theorem an_ok_X9_ringBells : ak_M an_ta an_kd an_lk an_on an_X9_ringBells = true := by decide +kernel
set_option maxRecDepth 100000 in
theorem an_ok_X9_ringBell : ak_M an_ta an_kd an_lk an_on an_X9_ringBell = true := by decide +kernel
set_option maxRecDepth 100000 in
theorem an_ok_X9_isCalled : ak_M an_ta an_kd an_lk an_on an_X9_isCalled = true := by decide +kernel
set_option maxRecDepth 100000 in
theorem an_ok_X9_payFor : ak_M an_ta an_kd an_lk an_on an_X9_payFor = true := by decide +kernel
set_option maxRecDepth 100000 in
theorem an_ok_X9_inform : ak_M an_ta an_kd an_lk an_on an_X9_inform = true := by decide +kernel
set_option maxRecDepth 100000 in
theorem an_ok_X10_init : ak_M an_ta an_kd an_lk an_on an_X10_init = true := by decide +kernel
set_option maxRecDepth 100000 in
theorem an_ok_X10_thrown : ak_M an_ta an_kd an_lk an_on an_X10_thrown = true := by decide +kernel
set_option maxRecDepth 100000 in
theorem an_ok_X10_fail : ak_M an_ta an_kd an_lk an_on an_X10_fail = true := by decide +kernel
set_option maxRecDepth 100000 in
theorem an_ok_X10_isCell : ak_M an_ta an_kd an_lk an_on an_X10_isCell = true := by decide +kernel
set_option maxRecDepth 100000 in
theorem an_ok_X10_isCompany : ak_M an_ta an_kd an_lk an_on an_X10_isCompany = true := by decide +kernel
set_option maxRecDepth 100000 in
theorem an_ok_X10_beside : ak_M an_ta an_kd an_lk an_on an_X10_beside = true := by decide +kernel
set_option maxRecDepth 100000 in
theorem an_ok_X10_far : ak_M an_ta an_kd an_lk an_on an_X10_far = true := by decide +kernel
set_option maxRecDepth 100000 in
theorem an_ok_X10_house : ak_M an_ta an_kd an_lk an_on an_X10_house = true := by decide +kernel
set_option maxRecDepth 100000 in
theorem an_ok_X10_well : ak_M an_ta an_kd an_lk an_on an_X10_well = true := by decide +kernel
set_option maxRecDepth 100000 in
theorem an_ok_X10_wind : ak_M an_ta an_kd an_lk an_on an_X10_wind = true := by decide +kernel
set_option maxRecDepth 100000 in
theorem an_ok_X10_company : ak_M an_ta an_kd an_lk an_on an_X10_company = true := by decide +kernel
set_option maxRecDepth 100000 in
theorem an_ok_X10_feed : ak_M an_ta an_kd an_lk an_on an_X10_feed = true := by decide +kernel
set_option maxRecDepth 100000 in
theorem an_ok_X10_byteAt : ak_M an_ta an_kd an_lk an_on an_X10_byteAt = true := by decide +kernel
set_option maxRecDepth 100000 in
theorem an_ok_X10_isLetter : ak_M an_ta an_kd an_lk an_on an_X10_isLetter = true := by decide +kernel
set_option maxRecDepth 100000 in
theorem an_ok_X10_isDigit : ak_M an_ta an_kd an_lk an_on an_X10_isDigit = true := by decide +kernel
set_option maxRecDepth 100000 in
theorem an_ok_X10_step : ak_M an_ta an_kd an_lk an_on an_X10_step = true := by decide +kernel
set_option maxRecDepth 100000 in
theorem an_ok_X10_isWord : ak_M an_ta an_kd an_lk an_on an_X10_isWord = true := by decide +kernel
set_option maxRecDepth 100000 in
theorem an_ok_X10_isSign : ak_M an_ta an_kd an_lk an_on an_X10_isSign = true := by decide +kernel
set_option maxRecDepth 100000 in
theorem an_ok_X10_wrong : ak_M an_ta an_kd an_lk an_on an_X10_wrong = true := by decide +kernel
set_option maxRecDepth 100000 in
theorem an_ok_X10_emit : ak_M an_ta an_kd an_lk an_on an_X10_emit = true := by decide +kernel
set_option maxRecDepth 100000 in
theorem an_ok_X10_readLaw : ak_M an_ta an_kd an_lk an_on an_X10_readLaw = true := by decide +kernel
set_option maxRecDepth 100000 in
theorem an_ok_X10_readExpression : ak_M an_ta an_kd an_lk an_on an_X10_readExpression = true := by decide +kernel
set_option maxRecDepth 100000 in
theorem an_ok_X10_readTest : ak_M an_ta an_kd an_lk an_on an_X10_readTest = true := by decide +kernel
set_option maxRecDepth 100000 in
theorem an_ok_X10_readSum : ak_M an_ta an_kd an_lk an_on an_X10_readSum = true := by decide +kernel
set_option maxRecDepth 100000 in
theorem an_ok_X10_readPart : ak_M an_ta an_kd an_lk an_on an_X10_readPart = true := by decide +kernel
set_option maxRecDepth 100000 in
theorem an_ok_X10_law : ak_M an_ta an_kd an_lk an_on an_X10_law = true := by decide +kernel
set_option maxRecDepth 100000 in
theorem an_ok_X10_fault : ak_M an_ta an_kd an_lk an_on an_X10_fault = true := by decide +kernel
set_option maxRecDepth 100000 in
theorem an_ok_X10_force : ak_M an_ta an_kd an_lk an_on an_X10_force = true := by decide +kernel
set_option maxRecDepth 100000 in
theorem an_ok_X10_many : ak_M an_ta an_kd an_lk an_on an_X10_many = true := by decide +kernel
set_option maxRecDepth 100000 in
theorem an_ok_X10_value : ak_M an_ta an_kd an_lk an_on an_X10_value = true := by decide +kernel
set_option maxRecDepth 100000 in
theorem an_ok_X10_two : ak_M an_ta an_kd an_lk an_on an_X10_two = true := by decide +kernel
set_option maxRecDepth 100000 in
theorem an_ok_X10_told : ak_M an_ta an_kd an_lk an_on an_X10_told = true := by decide +kernel
set_option maxRecDepth 100000 in
theorem an_ok_X10_ruled : ak_M an_ta an_kd an_lk an_on an_X10_ruled = true := by decide +kernel
set_option maxRecDepth 100000 in
theorem an_ok_X10_isCalled : ak_M an_ta an_kd an_lk an_on an_X10_isCalled = true := by decide +kernel
set_option maxRecDepth 100000 in
theorem an_ok_X10_payOf : ak_M an_ta an_kd an_lk an_on an_X10_payOf = true := by decide +kernel
set_option maxRecDepth 100000 in
theorem an_ok_X10_noGoal : ak_M an_ta an_kd an_lk an_on an_X10_noGoal = true := by decide +kernel
set_option maxRecDepth 100000 in
theorem an_ok_X10_ring : ak_M an_ta an_kd an_lk an_on an_X10_ring = true := by decide +kernel
set_option maxRecDepth 100000 in
theorem an_ok_X10_light : ak_M an_ta an_kd an_lk an_on an_X10_light = true := by decide +kernel
set_option maxRecDepth 100000 in
theorem an_ok_X10_aim : ak_M an_ta an_kd an_lk an_on an_X10_aim = true := by decide +kernel
set_option maxRecDepth 100000 in
theorem an_ok_X10_send : ak_M an_ta an_kd an_lk an_on an_X10_send = true := by decide +kernel
set_option maxRecDepth 100000 in
theorem an_ok_X10_pull : ak_M an_ta an_kd an_lk an_on an_X10_pull = true := by decide +kernel
set_option maxRecDepth 100000 in
theorem an_ok_X10_isBeside : ak_M an_ta an_kd an_lk an_on an_X10_isBeside = true := by decide +kernel
set_option maxRecDepth 100000 in
theorem an_ok_X10_isOpen : ak_M an_ta an_kd an_lk an_on an_X10_isOpen = true := by decide +kernel
set_option maxRecDepth 100000 in
theorem an_ok_X10_reckon : ak_M an_ta an_kd an_lk an_on an_X10_reckon = true := by decide +kernel
set_option maxRecDepth 100000 in
theorem an_ok_X10_go : ak_M an_ta an_kd an_lk an_on an_X10_go = true := by decide +kernel
set_option maxRecDepth 100000 in
theorem an_ok_X10_roofs : ak_M an_ta an_kd an_lk an_on an_X10_roofs = true := by decide +kernel
set_option maxRecDepth 100000 in
theorem an_ok_X10_isByWell : ak_M an_ta an_kd an_lk an_on an_X10_isByWell = true := by decide +kernel
set_option maxRecDepth 100000 in
theorem an_ok_X10_work : ak_M an_ta an_kd an_lk an_on an_X10_work = true := by decide +kernel
set_option maxRecDepth 100000 in
theorem an_ok_X10_burn : ak_M an_ta an_kd an_lk an_on an_X10_burn = true := by decide +kernel
set_option maxRecDepth 100000 in
theorem an_ok_X10_warm : ak_M an_ta an_kd an_lk an_on an_X10_warm = true := by decide +kernel
set_option maxRecDepth 100000 in
theorem an_ok_X10_hours : ak_M an_ta an_kd an_lk an_on an_X10_hours = true := by decide +kernel
set_option maxRecDepth 100000 in
theorem an_ok_X10_cell : ak_M an_ta an_kd an_lk an_on an_X10_cell = true := by decide +kernel
set_option maxRecDepth 100000 in
theorem an_ok_X10_of : ak_M an_ta an_kd an_lk an_on an_X10_of = true := by decide +kernel
set_option maxRecDepth 100000 in
theorem an_ok_X10_isSource : ak_M an_ta an_kd an_lk an_on an_X10_isSource = true := by decide +kernel
set_option maxRecDepth 100000 in
theorem an_ok_X10_stays : ak_M an_ta an_kd an_lk an_on an_X10_stays = true := by decide +kernel
set_option maxRecDepth 100000 in
theorem an_ok_X10_oneMore : ak_M an_ta an_kd an_lk an_on an_X10_oneMore = true := by decide +kernel
set_option maxRecDepth 100000 in
theorem an_ok_X10_trace : ak_M an_ta an_kd an_lk an_on an_X10_trace = true := by decide +kernel
set_option maxRecDepth 100000 in
theorem an_ok_X10_least : ak_M an_ta an_kd an_lk an_on an_X10_least = true := by decide +kernel
set_option maxRecDepth 100000 in
theorem an_ok_X10_breaks : ak_M an_ta an_kd an_lk an_on an_X10_breaks = true := by decide +kernel
set_option maxRecDepth 100000 in
theorem an_ok_X10_breaker : ak_M an_ta an_kd an_lk an_on an_X10_breaker = true := by decide +kernel
set_option maxRecDepth 100000 in
theorem an_ok_X10_count : ak_M an_ta an_kd an_lk an_on an_X10_count = true := by decide +kernel
set_option maxRecDepth 100000 in
theorem an_ok_J7_fill_53178 : ak_M an_ta an_kd an_lk an_on an_J7_fill_53178 = true := by decide +kernel
set_option maxRecDepth 100000 in
theorem an_ok_L_cell : ak_M an_ta an_kd an_lk an_on an_L_cell = true := by decide +kernel
set_option maxRecDepth 100000 in
theorem an_ok_L_house : ak_M an_ta an_kd an_lk an_on an_L_house = true := by decide +kernel
set_option maxRecDepth 100000 in
theorem an_ok_L_well : ak_M an_ta an_kd an_lk an_on an_L_well = true := by decide +kernel
set_option maxRecDepth 100000 in
theorem an_ok_L_wind : ak_M an_ta an_kd an_lk an_on an_L_wind = true := by decide +kernel
set_option maxRecDepth 100000 in
theorem an_ok_L_company : ak_M an_ta an_kd an_lk an_on an_L_company = true := by decide +kernel
set_option maxRecDepth 100000 in
theorem an_ok_L_law : ak_M an_ta an_kd an_lk an_on an_L_law = true := by decide +kernel
set_option maxRecDepth 100000 in
theorem an_ok_L_light : ak_M an_ta an_kd an_lk an_on an_L_light = true := by decide +kernel
set_option maxRecDepth 100000 in
theorem an_ok_L_send : ak_M an_ta an_kd an_lk an_on an_L_send = true := by decide +kernel
set_option maxRecDepth 100000 in
theorem an_ok_L_pull : ak_M an_ta an_kd an_lk an_on an_L_pull = true := by decide +kernel
set_option maxRecDepth 100000 in
theorem an_ok_L_hours : ak_M an_ta an_kd an_lk an_on an_L_hours = true := by decide +kernel
set_option maxRecDepth 100000 in
theorem an_ok_L_cell_ : ak_M an_ta an_kd an_lk an_on an_L_cell_ = true := by decide +kernel
set_option maxRecDepth 100000 in
theorem an_ok_L_of : ak_M an_ta an_kd an_lk an_on an_L_of = true := by decide +kernel
set_option maxRecDepth 100000 in
theorem an_ok_L_breaks : ak_M an_ta an_kd an_lk an_on an_L_breaks = true := by decide +kernel
set_option maxRecDepth 100000 in
theorem an_ok_L_breaker : ak_M an_ta an_kd an_lk an_on an_L_breaker = true := by decide +kernel
set_option maxRecDepth 100000 in
theorem an_ok_L_count : ak_M an_ta an_kd an_lk an_on an_L_count = true := by decide +kernel
theorem an_oks : ∀ (q : Nat) (M : ai_M), an_ms[q]? = some M → ai_okM an_ms an_lk an_on M := by
  intro q M h
  match q, h with
  | 0, h => cases h; exact ak_M_ok an_tas (ak_arrs an_ars) an_cs an_K0 an_ok_X0_init
  | 1, h => cases h; exact ak_M_ok an_tas (ak_arrs an_ars) an_cs an_K0 an_ok_X0_init
  | 2, h => cases h; exact ak_M_ok an_tas (ak_arrs an_ars) an_cs an_K0 an_ok_X0_has
  | 3, h => cases h; exact ak_M_ok an_tas (ak_arrs an_ars) an_cs an_K0 an_ok_X0_far
  | 4, h => cases h; exact ak_M_ok an_tas (ak_arrs an_ars) an_cs an_K0 an_ok_X0_areBeside
  | 5, h => cases h; exact ak_M_ok an_tas (ak_arrs an_ars) an_cs an_K0 an_ok_X0_build
  | 6, h => cases h; exact ak_M_ok an_tas (ak_arrs an_ars) an_cs an_K0 an_ok_X0_tally
  | 7, h => cases h; exact ak_M_ok an_tas (ak_arrs an_ars) an_cs an_K0 an_ok_X0_burns
  | 8, h => cases h; exact ak_M_ok an_tas (ak_arrs an_ars) an_cs an_K0 an_ok_X0_burningBeside
  | 9, h => cases h; exact ak_M_ok an_tas (ak_arrs an_ars) an_cs an_K0 an_ok_X0_wellNear
  | 10, h => cases h; exact ak_M_ok an_tas (ak_arrs an_ars) an_cs an_K0 an_ok_X0_warmUp
  | 11, h => cases h; exact ak_M_ok an_tas (ak_arrs an_ars) an_cs an_K0 an_ok_X0_heatAt
  | 12, h => cases h; exact ak_M_ok an_tas (ak_arrs an_ars) an_cs an_K0 an_ok_X0_windFrom
  | 13, h => cases h; exact ak_M_ok an_tas (ak_arrs an_ars) an_cs an_K1 an_ok_X1_init
  | 14, h => cases h; exact ak_M_ok an_tas (ak_arrs an_ars) an_cs an_K1 an_ok_X1_has
  | 15, h => cases h; exact ak_M_ok an_tas (ak_arrs an_ars) an_cs an_K1 an_ok_X1_enlist
  | 16, h => cases h; exact ak_M_ok an_tas (ak_arrs an_ars) an_cs an_K1 an_ok_X1_forget
  | 17, h => cases h; exact ak_M_ok an_tas (ak_arrs an_ars) an_cs an_K1 an_ok_X1_bound
  | 18, h => cases h; exact ak_M_ok an_tas (ak_arrs an_ars) an_cs an_K1 an_ok_X1_allQuarrels
  | 19, h => cases h; exact ak_M_ok an_tas (ak_arrs an_ars) an_cs an_K2 an_ok_X2_init
  | 20, h => cases h; exact ak_M_ok an_tas (ak_arrs an_ars) an_cs an_K2 an_ok_X2_plan
  | 21, h => cases h; exact ak_M_ok an_tas (ak_arrs an_ars) an_cs an_K2 an_ok_X2_addRow
  | 22, h => cases h; exact ak_M_ok an_tas (ak_arrs an_ars) an_cs an_K2 an_ok_X2_turn
  | 23, h => cases h; exact ak_M_ok an_tas (ak_arrs an_ars) an_cs an_K2 an_ok_X2_search
  | 24, h => cases h; exact ak_M_ok an_tas (ak_arrs an_ars) an_cs an_K2 an_ok_X2_goOnFromEntry
  | 25, h => cases h; exact ak_M_ok an_tas (ak_arrs an_ars) an_cs an_K2 an_ok_X2_goOnFromExit
  | 26, h => cases h; exact ak_M_ok an_tas (ak_arrs an_ars) an_cs an_K2 an_ok_X2_see
  | 27, h => cases h; exact ak_M_ok an_tas (ak_arrs an_ars) an_cs an_K2 an_ok_X2_isInSomeBreak
  | 28, h => cases h; exact ak_M_ok an_tas (ak_arrs an_ars) an_cs an_K2 an_ok_X2_keep
  | 29, h => cases h; exact ak_M_ok an_tas (ak_arrs an_ars) an_cs an_K3 an_ok_X3_init
  | 30, h => cases h; exact ak_M_ok an_tas (ak_arrs an_ars) an_cs an_K3 an_ok_X3_learn
  | 31, h => cases h; exact ak_M_ok an_tas (ak_arrs an_ars) an_cs an_K3 an_ok_X3_apply
  | 32, h => cases h; exact ak_M_ok an_tas (ak_arrs an_ars) an_cs an_K3 an_ok_X3_take
  | 33, h => cases h; exact ak_M_ok an_tas (ak_arrs an_ars) an_cs an_K3 an_ok_X3_join
  | 34, h => cases h; exact ak_M_ok an_tas (ak_arrs an_ars) an_cs an_K3 an_ok_X3_push
  | 35, h => cases h; exact ak_M_ok an_tas (ak_arrs an_ars) an_cs an_K3 an_ok_X3_pop
  | 36, h => cases h; exact ak_M_ok an_tas (ak_arrs an_ars) an_cs an_K4 an_ok_X4_init
  | 37, h => cases h; exact ak_M_ok an_tas (ak_arrs an_ars) an_cs an_K4 an_ok_X4_enter
  | 38, h => cases h; exact ak_M_ok an_tas (ak_arrs an_ars) an_cs an_K4 an_ok_X4_begin
  | 39, h => cases h; exact ak_M_ok an_tas (ak_arrs an_ars) an_cs an_K4 an_ok_X4_inForce
  | 40, h => cases h; exact ak_M_ok an_tas (ak_arrs an_ars) an_cs an_K5 an_ok_X5_init
  | 41, h => cases h; exact ak_M_ok an_tas (ak_arrs an_ars) an_cs an_K5 an_ok_X5_reads
  | 42, h => cases h; exact ak_M_ok an_tas (ak_arrs an_ars) an_cs an_K5 an_ok_X5_place
  | 43, h => cases h; exact ak_M_ok an_tas (ak_arrs an_ars) an_cs an_K5 an_ok_X5_readRule
  | 44, h => cases h; exact ak_M_ok an_tas (ak_arrs an_ars) an_cs an_K5 an_ok_X5_readExpr
  | 45, h => cases h; exact ak_M_ok an_tas (ak_arrs an_ars) an_cs an_K5 an_ok_X5_readTest
  | 46, h => cases h; exact ak_M_ok an_tas (ak_arrs an_ars) an_cs an_K5 an_ok_X5_readSum
  | 47, h => cases h; exact ak_M_ok an_tas (ak_arrs an_ars) an_cs an_K5 an_ok_X5_readPart
  | 48, h => cases h; exact ak_M_ok an_tas (ak_arrs an_ars) an_cs an_K5 an_ok_X5_isNumberOrName
  | 49, h => cases h; exact ak_M_ok an_tas (ak_arrs an_ars) an_cs an_K5 an_ok_X5_beginsPart
  | 50, h => cases h; exact ak_M_ok an_tas (ak_arrs an_ars) an_cs an_K5 an_ok_X5_faultOfPart
  | 51, h => cases h; exact ak_M_ok an_tas (ak_arrs an_ars) an_cs an_K5 an_ok_X5_fail
  | 52, h => cases h; exact ak_M_ok an_tas (ak_arrs an_ars) an_cs an_K5 an_ok_X5_emit
  | 53, h => cases h; exact ak_M_ok an_tas (ak_arrs an_ars) an_cs an_K5 an_ok_X5_advance
  | 54, h => cases h; exact ak_M_ok an_tas (ak_arrs an_ars) an_cs an_K6 an_ok_X6_init
  | 55, h => cases h; exact ak_M_ok an_tas (ak_arrs an_ars) an_cs an_K6 an_ok_X6_put
  | 56, h => cases h; exact ak_M_ok an_tas (ak_arrs an_ars) an_cs an_K7 an_ok_X7_init
  | 57, h => cases h; exact ak_M_ok an_tas (ak_arrs an_ars) an_cs an_K7 an_ok_X7_scan
  | 58, h => cases h; exact ak_M_ok an_tas (ak_arrs an_ars) an_cs an_K7 an_ok_X7_add
  | 59, h => cases h; exact ak_M_ok an_tas (ak_arrs an_ars) an_cs an_K7 an_ok_X7_takeToken
  | 60, h => cases h; exact ak_M_ok an_tas (ak_arrs an_ars) an_cs an_K7 an_ok_X7_letterAt
  | 61, h => cases h; exact ak_M_ok an_tas (ak_arrs an_ars) an_cs an_K7 an_ok_X7_digitAt
  | 62, h => cases h; exact ak_M_ok an_tas (ak_arrs an_ars) an_cs an_K7 an_ok_X7_takeNumber
  | 63, h => cases h; exact ak_M_ok an_tas (ak_arrs an_ars) an_cs an_K7 an_ok_X7_takeWord
  | 64, h => cases h; exact ak_M_ok an_tas (ak_arrs an_ars) an_cs an_K7 an_ok_X7_keyword
  | 65, h => cases h; exact ak_M_ok an_tas (ak_arrs an_ars) an_cs an_K7 an_ok_X7_nameWord
  | 66, h => cases h; exact ak_M_ok an_tas (ak_arrs an_ars) an_cs an_K7 an_ok_X7_wordIs
  | 67, h => cases h; exact ak_M_ok an_tas (ak_arrs an_ars) an_cs an_K7 an_ok_X7_signAt
  | 68, h => cases h; exact ak_M_ok an_tas (ak_arrs an_ars) an_cs an_K8 an_ok_X8_init
  | 69, h => cases h; exact ak_M_ok an_tas (ak_arrs an_ars) an_cs an_K8 an_ok_X8_stepTowards
  | 70, h => cases h; exact ak_M_ok an_tas (ak_arrs an_ars) an_cs an_K8 an_ok_X8_reckonSteps
  | 71, h => cases h; exact ak_M_ok an_tas (ak_arrs an_ars) an_cs an_K8 an_ok_X8_spread
  | 72, h => cases h; exact ak_M_ok an_tas (ak_arrs an_ars) an_cs an_K9 an_ok_X9_init
  | 73, h => cases h; exact ak_M_ok an_tas (ak_arrs an_ars) an_cs an_K9 an_ok_X9_house
  | 74, h => cases h; exact ak_M_ok an_tas (ak_arrs an_ars) an_cs an_K9 an_ok_X9_well
  | 75, h => cases h; exact ak_M_ok an_tas (ak_arrs an_ars) an_cs an_K9 an_ok_X9_wind
  | 76, h => cases h; exact ak_M_ok an_tas (ak_arrs an_ars) an_cs an_K9 an_ok_X9_company
  | 77, h => cases h; exact ak_M_ok an_tas (ak_arrs an_ars) an_cs an_K9 an_ok_X9_feed
  | 78, h => cases h; exact ak_M_ok an_tas (ak_arrs an_ars) an_cs an_K9 an_ok_X9_law
  | 79, h => cases h; exact ak_M_ok an_tas (ak_arrs an_ars) an_cs an_K9 an_ok_X9_fault
  | 80, h => cases h; exact ak_M_ok an_tas (ak_arrs an_ars) an_cs an_K9 an_ok_X9_light
  | 81, h => cases h; exact ak_M_ok an_tas (ak_arrs an_ars) an_cs an_K9 an_ok_X9_send
  | 82, h => cases h; exact ak_M_ok an_tas (ak_arrs an_ars) an_cs an_K9 an_ok_X9_pull
  | 83, h => cases h; exact ak_M_ok an_tas (ak_arrs an_ars) an_cs an_K9 an_ok_X9_hours
  | 84, h => cases h; exact ak_M_ok an_tas (ak_arrs an_ars) an_cs an_K9 an_ok_X9_cell
  | 85, h => cases h; exact ak_M_ok an_tas (ak_arrs an_ars) an_cs an_K9 an_ok_X9_of
  | 86, h => cases h; exact ak_M_ok an_tas (ak_arrs an_ars) an_cs an_K9 an_ok_X9_breaks
  | 87, h => cases h; exact ak_M_ok an_tas (ak_arrs an_ars) an_cs an_K9 an_ok_X9_breaker
  | 88, h => cases h; exact ak_M_ok an_tas (ak_arrs an_ars) an_cs an_K9 an_ok_X9_count
  | 89, h => cases h; exact ak_M_ok an_tas (ak_arrs an_ars) an_cs an_K9 an_ok_X9_needCell
  | 90, h => cases h; exact ak_M_ok an_tas (ak_arrs an_ars) an_cs an_K9 an_ok_X9_needCrew
  | 91, h => cases h; exact ak_M_ok an_tas (ak_arrs an_ars) an_cs an_K9 an_ok_X9_isWard
  | 92, h => cases h; exact ak_M_ok an_tas (ak_arrs an_ars) an_cs an_K9 an_ok_X9_order
  | 93, h => cases h; exact ak_M_ok an_tas (ak_arrs an_ars) an_cs an_K9 an_ok_X9_passHour
  | 94, h => cases h; exact ak_M_ok an_tas (ak_arrs an_ars) an_cs an_K9 an_ok_X9_crewsGo
  | 95, h => cases h; exact ak_M_ok an_tas (ak_arrs an_ars) an_cs an_K9 an_ok_X9_giveRoofs
  | 96, h => cases h; exact ak_M_ok an_tas (ak_arrs an_ars) an_cs an_K9 an_ok_X9_giveRoof
  | 97, h => cases h; exact ak_M_ok an_tas (ak_arrs an_ars) an_cs an_K9 an_ok_X9_crewsWork
  | 98, h => cases h; exact ak_M_ok an_tas (ak_arrs an_ars) an_cs an_K9 an_ok_X9_pullAt
  | 99, h => cases h; exact ak_M_ok an_tas (ak_arrs an_ars) an_cs an_K9 an_ok_X9_fireEats
  | 100, h => cases h; exact ak_M_ok an_tas (ak_arrs an_ars) an_cs an_K9 an_ok_X9_putOut
  | 101, h => cases h; exact ak_M_ok an_tas (ak_arrs an_ars) an_cs an_K9 an_ok_X9_leave
  | 102, h => cases h; exact ak_M_ok an_tas (ak_arrs an_ars) an_cs an_K9 an_ok_X9_ringBells
  | 103, h => cases h; exact ak_M_ok an_tas (ak_arrs an_ars) an_cs an_K9 an_ok_X9_ringBell
  | 104, h => cases h; exact ak_M_ok an_tas (ak_arrs an_ars) an_cs an_K9 an_ok_X9_isCalled
  | 105, h => cases h; exact ak_M_ok an_tas (ak_arrs an_ars) an_cs an_K9 an_ok_X9_payFor
  | 106, h => cases h; exact ak_M_ok an_tas (ak_arrs an_ars) an_cs an_K9 an_ok_X9_inform
  | 107, h => cases h; exact ak_M_ok an_tas (ak_arrs an_ars) an_cs an_K10 an_ok_X10_init
  | 108, h => cases h; exact ak_M_ok an_tas (ak_arrs an_ars) an_cs an_K10 an_ok_X10_thrown
  | 109, h => cases h; exact ak_M_ok an_tas (ak_arrs an_ars) an_cs an_K10 an_ok_X10_fail
  | 110, h => cases h; exact ak_M_ok an_tas (ak_arrs an_ars) an_cs an_K10 an_ok_X10_isCell
  | 111, h => cases h; exact ak_M_ok an_tas (ak_arrs an_ars) an_cs an_K10 an_ok_X10_isCompany
  | 112, h => cases h; exact ak_M_ok an_tas (ak_arrs an_ars) an_cs an_K10 an_ok_X10_beside
  | 113, h => cases h; exact ak_M_ok an_tas (ak_arrs an_ars) an_cs an_K10 an_ok_X10_far
  | 114, h => cases h; exact ak_M_ok an_tas (ak_arrs an_ars) an_cs an_K10 an_ok_X10_house
  | 115, h => cases h; exact ak_M_ok an_tas (ak_arrs an_ars) an_cs an_K10 an_ok_X10_well
  | 116, h => cases h; exact ak_M_ok an_tas (ak_arrs an_ars) an_cs an_K10 an_ok_X10_wind
  | 117, h => cases h; exact ak_M_ok an_tas (ak_arrs an_ars) an_cs an_K10 an_ok_X10_company
  | 118, h => cases h; exact ak_M_ok an_tas (ak_arrs an_ars) an_cs an_K10 an_ok_X10_feed
  | 119, h => cases h; exact ak_M_ok an_tas (ak_arrs an_ars) an_cs an_K10 an_ok_X10_byteAt
  | 120, h => cases h; exact ak_M_ok an_tas (ak_arrs an_ars) an_cs an_K10 an_ok_X10_isLetter
  | 121, h => cases h; exact ak_M_ok an_tas (ak_arrs an_ars) an_cs an_K10 an_ok_X10_isDigit
  | 122, h => cases h; exact ak_M_ok an_tas (ak_arrs an_ars) an_cs an_K10 an_ok_X10_step
  | 123, h => cases h; exact ak_M_ok an_tas (ak_arrs an_ars) an_cs an_K10 an_ok_X10_isWord
  | 124, h => cases h; exact ak_M_ok an_tas (ak_arrs an_ars) an_cs an_K10 an_ok_X10_isSign
  | 125, h => cases h; exact ak_M_ok an_tas (ak_arrs an_ars) an_cs an_K10 an_ok_X10_wrong
  | 126, h => cases h; exact ak_M_ok an_tas (ak_arrs an_ars) an_cs an_K10 an_ok_X10_emit
  | 127, h => cases h; exact ak_M_ok an_tas (ak_arrs an_ars) an_cs an_K10 an_ok_X10_readLaw
  | 128, h => cases h; exact ak_M_ok an_tas (ak_arrs an_ars) an_cs an_K10 an_ok_X10_readExpression
  | 129, h => cases h; exact ak_M_ok an_tas (ak_arrs an_ars) an_cs an_K10 an_ok_X10_readTest
  | 130, h => cases h; exact ak_M_ok an_tas (ak_arrs an_ars) an_cs an_K10 an_ok_X10_readSum
  | 131, h => cases h; exact ak_M_ok an_tas (ak_arrs an_ars) an_cs an_K10 an_ok_X10_readPart
  | 132, h => cases h; exact ak_M_ok an_tas (ak_arrs an_ars) an_cs an_K10 an_ok_X10_law
  | 133, h => cases h; exact ak_M_ok an_tas (ak_arrs an_ars) an_cs an_K10 an_ok_X10_fault
  | 134, h => cases h; exact ak_M_ok an_tas (ak_arrs an_ars) an_cs an_K10 an_ok_X10_force
  | 135, h => cases h; exact ak_M_ok an_tas (ak_arrs an_ars) an_cs an_K10 an_ok_X10_many
  | 136, h => cases h; exact ak_M_ok an_tas (ak_arrs an_ars) an_cs an_K10 an_ok_X10_value
  | 137, h => cases h; exact ak_M_ok an_tas (ak_arrs an_ars) an_cs an_K10 an_ok_X10_two
  | 138, h => cases h; exact ak_M_ok an_tas (ak_arrs an_ars) an_cs an_K10 an_ok_X10_told
  | 139, h => cases h; exact ak_M_ok an_tas (ak_arrs an_ars) an_cs an_K10 an_ok_X10_ruled
  | 140, h => cases h; exact ak_M_ok an_tas (ak_arrs an_ars) an_cs an_K10 an_ok_X10_isCalled
  | 141, h => cases h; exact ak_M_ok an_tas (ak_arrs an_ars) an_cs an_K10 an_ok_X10_payOf
  | 142, h => cases h; exact ak_M_ok an_tas (ak_arrs an_ars) an_cs an_K10 an_ok_X10_noGoal
  | 143, h => cases h; exact ak_M_ok an_tas (ak_arrs an_ars) an_cs an_K10 an_ok_X10_ring
  | 144, h => cases h; exact ak_M_ok an_tas (ak_arrs an_ars) an_cs an_K10 an_ok_X10_light
  | 145, h => cases h; exact ak_M_ok an_tas (ak_arrs an_ars) an_cs an_K10 an_ok_X10_aim
  | 146, h => cases h; exact ak_M_ok an_tas (ak_arrs an_ars) an_cs an_K10 an_ok_X10_send
  | 147, h => cases h; exact ak_M_ok an_tas (ak_arrs an_ars) an_cs an_K10 an_ok_X10_pull
  | 148, h => cases h; exact ak_M_ok an_tas (ak_arrs an_ars) an_cs an_K10 an_ok_X10_isBeside
  | 149, h => cases h; exact ak_M_ok an_tas (ak_arrs an_ars) an_cs an_K10 an_ok_X10_isOpen
  | 150, h => cases h; exact ak_M_ok an_tas (ak_arrs an_ars) an_cs an_K10 an_ok_X10_reckon
  | 151, h => cases h; exact ak_M_ok an_tas (ak_arrs an_ars) an_cs an_K10 an_ok_X10_go
  | 152, h => cases h; exact ak_M_ok an_tas (ak_arrs an_ars) an_cs an_K10 an_ok_X10_roofs
  | 153, h => cases h; exact ak_M_ok an_tas (ak_arrs an_ars) an_cs an_K10 an_ok_X10_isByWell
  | 154, h => cases h; exact ak_M_ok an_tas (ak_arrs an_ars) an_cs an_K10 an_ok_X10_work
  | 155, h => cases h; exact ak_M_ok an_tas (ak_arrs an_ars) an_cs an_K10 an_ok_X10_burn
  | 156, h => cases h; exact ak_M_ok an_tas (ak_arrs an_ars) an_cs an_K10 an_ok_X10_warm
  | 157, h => cases h; exact ak_M_ok an_tas (ak_arrs an_ars) an_cs an_K10 an_ok_X10_hours
  | 158, h => cases h; exact ak_M_ok an_tas (ak_arrs an_ars) an_cs an_K10 an_ok_X10_cell
  | 159, h => cases h; exact ak_M_ok an_tas (ak_arrs an_ars) an_cs an_K10 an_ok_X10_of
  | 160, h => cases h; exact ak_M_ok an_tas (ak_arrs an_ars) an_cs an_K10 an_ok_X10_isSource
  | 161, h => cases h; exact ak_M_ok an_tas (ak_arrs an_ars) an_cs an_K10 an_ok_X10_stays
  | 162, h => cases h; exact ak_M_ok an_tas (ak_arrs an_ars) an_cs an_K10 an_ok_X10_oneMore
  | 163, h => cases h; exact ak_M_ok an_tas (ak_arrs an_ars) an_cs an_K10 an_ok_X10_trace
  | 164, h => cases h; exact ak_M_ok an_tas (ak_arrs an_ars) an_cs an_K10 an_ok_X10_least
  | 165, h => cases h; exact ak_M_ok an_tas (ak_arrs an_ars) an_cs an_K10 an_ok_X10_breaks
  | 166, h => cases h; exact ak_M_ok an_tas (ak_arrs an_ars) an_cs an_K10 an_ok_X10_breaker
  | 167, h => cases h; exact ak_M_ok an_tas (ak_arrs an_ars) an_cs an_K10 an_ok_X10_count
  | 168, h => cases h; exact ak_M_ok an_tas (ak_arrs an_ars) an_cs an_K12 an_ok_J7_fill_53178
  | 169, h => cases h; exact ak_M_ok an_tas (ak_arrs an_ars) an_cs an_K11 an_ok_L_cell
  | 170, h => cases h; exact ak_M_ok an_tas (ak_arrs an_ars) an_cs an_K11 an_ok_L_house
  | 171, h => cases h; exact ak_M_ok an_tas (ak_arrs an_ars) an_cs an_K11 an_ok_L_well
  | 172, h => cases h; exact ak_M_ok an_tas (ak_arrs an_ars) an_cs an_K11 an_ok_L_wind
  | 173, h => cases h; exact ak_M_ok an_tas (ak_arrs an_ars) an_cs an_K11 an_ok_L_company
  | 174, h => cases h; exact ak_M_ok an_tas (ak_arrs an_ars) an_cs an_K11 an_ok_L_law
  | 175, h => cases h; exact ak_M_ok an_tas (ak_arrs an_ars) an_cs an_K11 an_ok_L_light
  | 176, h => cases h; exact ak_M_ok an_tas (ak_arrs an_ars) an_cs an_K11 an_ok_L_send
  | 177, h => cases h; exact ak_M_ok an_tas (ak_arrs an_ars) an_cs an_K11 an_ok_L_pull
  | 178, h => cases h; exact ak_M_ok an_tas (ak_arrs an_ars) an_cs an_K11 an_ok_L_hours
  | 179, h => cases h; exact ak_M_ok an_tas (ak_arrs an_ars) an_cs an_K11 an_ok_L_cell_
  | 180, h => cases h; exact ak_M_ok an_tas (ak_arrs an_ars) an_cs an_K11 an_ok_L_of
  | 181, h => cases h; exact ak_M_ok an_tas (ak_arrs an_ars) an_cs an_K11 an_ok_L_breaks
  | 182, h => cases h; exact ak_M_ok an_tas (ak_arrs an_ars) an_cs an_K11 an_ok_L_breaker
  | 183, h => cases h; exact ak_M_ok an_tas (ak_arrs an_ars) an_cs an_K11 an_ok_L_count
  | n + 184, h => simp [an_ms] at h
