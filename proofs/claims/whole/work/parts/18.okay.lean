/-! each instruction is that of the bytes -/
set_option maxRecDepth 100000 in
theorem an_ok_X0_init : ak_M an_ta an_kd an_lk an_on an_X0_init = true := by decide +kernel
set_option maxRecDepth 100000 in
theorem an_ok_X0_has : ak_M an_ta an_kd an_lk an_on an_X0_has = true := by decide +kernel
set_option maxRecDepth 100000 in
theorem an_ok_X0_far : ak_M an_ta an_kd an_lk an_on an_X0_far = true := by decide +kernel
set_option maxRecDepth 100000 in
theorem an_ok_X0_areBeside : ak_M an_ta an_kd an_lk an_on an_X0_areBeside = true := by decide +kernel
set_option maxRecDepth 100000 in
theorem an_ok_X0_build : ak_M an_ta an_kd an_lk an_on an_X0_build = true := by decide +kernel
set_option maxRecDepth 100000 in
theorem an_ok_X0_tally : ak_M an_ta an_kd an_lk an_on an_X0_tally = true := by decide +kernel
set_option maxRecDepth 100000 in
theorem an_ok_X0_burns : ak_M an_ta an_kd an_lk an_on an_X0_burns = true := by decide +kernel
set_option maxRecDepth 100000 in
theorem an_ok_X0_burningBeside : ak_M an_ta an_kd an_lk an_on an_X0_burningBeside = true := by decide +kernel
set_option maxRecDepth 100000 in
theorem an_ok_X0_wellNear : ak_M an_ta an_kd an_lk an_on an_X0_wellNear = true := by decide +kernel
set_option maxRecDepth 100000 in
theorem an_ok_X0_warmUp : ak_M an_ta an_kd an_lk an_on an_X0_warmUp = true := by decide +kernel
set_option maxRecDepth 100000 in
theorem an_ok_X0_heatAt : ak_M an_ta an_kd an_lk an_on an_X0_heatAt = true := by decide +kernel
set_option maxRecDepth 100000 in
theorem an_ok_X0_windFrom : ak_M an_ta an_kd an_lk an_on an_X0_windFrom = true := by decide +kernel
set_option maxRecDepth 100000 in
theorem an_ok_X1_init : ak_M an_ta an_kd an_lk an_on an_X1_init = true := by decide +kernel
set_option maxRecDepth 100000 in
theorem an_ok_X1_has : ak_M an_ta an_kd an_lk an_on an_X1_has = true := by decide +kernel
set_option maxRecDepth 100000 in
theorem an_ok_X1_enlist : ak_M an_ta an_kd an_lk an_on an_X1_enlist = true := by decide +kernel
set_option maxRecDepth 100000 in
theorem an_ok_X1_forget : ak_M an_ta an_kd an_lk an_on an_X1_forget = true := by decide +kernel
set_option maxRecDepth 100000 in
theorem an_ok_X1_bound : ak_M an_ta an_kd an_lk an_on an_X1_bound = true := by decide +kernel
set_option maxRecDepth 100000 in
theorem an_ok_X1_allQuarrels : ak_M an_ta an_kd an_lk an_on an_X1_allQuarrels = true := by decide +kernel
set_option maxRecDepth 100000 in
theorem an_ok_X2_init : ak_M an_ta an_kd an_lk an_on an_X2_init = true := by decide +kernel
set_option maxRecDepth 100000 in
theorem an_ok_X2_plan : ak_M an_ta an_kd an_lk an_on an_X2_plan = true := by decide +kernel
set_option maxRecDepth 100000 in
theorem an_ok_X2_addRow : ak_M an_ta an_kd an_lk an_on an_X2_addRow = true := by decide +kernel
set_option maxRecDepth 100000 in
theorem an_ok_X2_turn : ak_M an_ta an_kd an_lk an_on an_X2_turn = true := by decide +kernel
set_option maxRecDepth 100000 in
theorem an_ok_X2_search : ak_M an_ta an_kd an_lk an_on an_X2_search = true := by decide +kernel
set_option maxRecDepth 100000 in
theorem an_ok_X2_goOnFromEntry : ak_M an_ta an_kd an_lk an_on an_X2_goOnFromEntry = true := by decide +kernel
set_option maxRecDepth 100000 in
theorem an_ok_X2_goOnFromExit : ak_M an_ta an_kd an_lk an_on an_X2_goOnFromExit = true := by decide +kernel
set_option maxRecDepth 100000 in
theorem an_ok_X2_see : ak_M an_ta an_kd an_lk an_on an_X2_see = true := by decide +kernel
set_option maxRecDepth 100000 in
theorem an_ok_X2_isInSomeBreak : ak_M an_ta an_kd an_lk an_on an_X2_isInSomeBreak = true := by decide +kernel
set_option maxRecDepth 100000 in
theorem an_ok_X2_keep : ak_M an_ta an_kd an_lk an_on an_X2_keep = true := by decide +kernel
set_option maxRecDepth 100000 in
theorem an_ok_X3_init : ak_M an_ta an_kd an_lk an_on an_X3_init = true := by decide +kernel
set_option maxRecDepth 100000 in
theorem an_ok_X3_learn : ak_M an_ta an_kd an_lk an_on an_X3_learn = true := by decide +kernel
set_option maxRecDepth 100000 in
theorem an_ok_X3_apply : ak_M an_ta an_kd an_lk an_on an_X3_apply = true := by decide +kernel
set_option maxRecDepth 100000 in
theorem an_ok_X3_take : ak_M an_ta an_kd an_lk an_on an_X3_take = true := by decide +kernel
set_option maxRecDepth 100000 in
theorem an_ok_X3_join : ak_M an_ta an_kd an_lk an_on an_X3_join = true := by decide +kernel
set_option maxRecDepth 100000 in
theorem an_ok_X3_push : ak_M an_ta an_kd an_lk an_on an_X3_push = true := by decide +kernel
set_option maxRecDepth 100000 in
theorem an_ok_X3_pop : ak_M an_ta an_kd an_lk an_on an_X3_pop = true := by decide +kernel
set_option maxRecDepth 100000 in
theorem an_ok_X4_init : ak_M an_ta an_kd an_lk an_on an_X4_init = true := by decide +kernel
set_option maxRecDepth 100000 in
theorem an_ok_X4_enter : ak_M an_ta an_kd an_lk an_on an_X4_enter = true := by decide +kernel
set_option maxRecDepth 100000 in
theorem an_ok_X4_begin : ak_M an_ta an_kd an_lk an_on an_X4_begin = true := by decide +kernel
set_option maxRecDepth 100000 in
theorem an_ok_X4_inForce : ak_M an_ta an_kd an_lk an_on an_X4_inForce = true := by decide +kernel
set_option maxRecDepth 100000 in
theorem an_ok_X5_init : ak_M an_ta an_kd an_lk an_on an_X5_init = true := by decide +kernel
set_option maxRecDepth 100000 in
theorem an_ok_X5_reads : ak_M an_ta an_kd an_lk an_on an_X5_reads = true := by decide +kernel
set_option maxRecDepth 100000 in
theorem an_ok_X5_place : ak_M an_ta an_kd an_lk an_on an_X5_place = true := by decide +kernel
set_option maxRecDepth 100000 in
theorem an_ok_X5_readRule : ak_M an_ta an_kd an_lk an_on an_X5_readRule = true := by decide +kernel
set_option maxRecDepth 100000 in
theorem an_ok_X5_readExpr : ak_M an_ta an_kd an_lk an_on an_X5_readExpr = true := by decide +kernel
set_option maxRecDepth 100000 in
theorem an_ok_X5_readTest : ak_M an_ta an_kd an_lk an_on an_X5_readTest = true := by decide +kernel
set_option maxRecDepth 100000 in
theorem an_ok_X5_readSum : ak_M an_ta an_kd an_lk an_on an_X5_readSum = true := by decide +kernel
set_option maxRecDepth 100000 in
theorem an_ok_X5_readPart : ak_M an_ta an_kd an_lk an_on an_X5_readPart = true := by decide +kernel
set_option maxRecDepth 100000 in
theorem an_ok_X5_isNumberOrName : ak_M an_ta an_kd an_lk an_on an_X5_isNumberOrName = true := by decide +kernel
set_option maxRecDepth 100000 in
theorem an_ok_X5_beginsPart : ak_M an_ta an_kd an_lk an_on an_X5_beginsPart = true := by decide +kernel
set_option maxRecDepth 100000 in
theorem an_ok_X5_faultOfPart : ak_M an_ta an_kd an_lk an_on an_X5_faultOfPart = true := by decide +kernel
set_option maxRecDepth 100000 in
theorem an_ok_X5_fail : ak_M an_ta an_kd an_lk an_on an_X5_fail = true := by decide +kernel
set_option maxRecDepth 100000 in
theorem an_ok_X5_emit : ak_M an_ta an_kd an_lk an_on an_X5_emit = true := by decide +kernel
set_option maxRecDepth 100000 in
theorem an_ok_X5_advance : ak_M an_ta an_kd an_lk an_on an_X5_advance = true := by decide +kernel
set_option maxRecDepth 100000 in
theorem an_ok_X6_init : ak_M an_ta an_kd an_lk an_on an_X6_init = true := by decide +kernel
set_option maxRecDepth 100000 in
theorem an_ok_X6_put : ak_M an_ta an_kd an_lk an_on an_X6_put = true := by decide +kernel
set_option maxRecDepth 100000 in
theorem an_ok_X7_init : ak_M an_ta an_kd an_lk an_on an_X7_init = true := by decide +kernel
set_option maxRecDepth 100000 in
theorem an_ok_X7_scan : ak_M an_ta an_kd an_lk an_on an_X7_scan = true := by decide +kernel
set_option maxRecDepth 100000 in
theorem an_ok_X7_add : ak_M an_ta an_kd an_lk an_on an_X7_add = true := by decide +kernel
set_option maxRecDepth 100000 in
theorem an_ok_X7_takeToken : ak_M an_ta an_kd an_lk an_on an_X7_takeToken = true := by decide +kernel
set_option maxRecDepth 100000 in
theorem an_ok_X7_letterAt : ak_M an_ta an_kd an_lk an_on an_X7_letterAt = true := by decide +kernel
set_option maxRecDepth 100000 in
theorem an_ok_X7_digitAt : ak_M an_ta an_kd an_lk an_on an_X7_digitAt = true := by decide +kernel
set_option maxRecDepth 100000 in
theorem an_ok_X7_takeNumber : ak_M an_ta an_kd an_lk an_on an_X7_takeNumber = true := by decide +kernel
set_option maxRecDepth 100000 in
theorem an_ok_X7_takeWord : ak_M an_ta an_kd an_lk an_on an_X7_takeWord = true := by decide +kernel
set_option maxRecDepth 100000 in
theorem an_ok_X7_keyword : ak_M an_ta an_kd an_lk an_on an_X7_keyword = true := by decide +kernel
set_option maxRecDepth 100000 in
theorem an_ok_X7_nameWord : ak_M an_ta an_kd an_lk an_on an_X7_nameWord = true := by decide +kernel
set_option maxRecDepth 100000 in
theorem an_ok_X7_wordIs : ak_M an_ta an_kd an_lk an_on an_X7_wordIs = true := by decide +kernel
set_option maxRecDepth 100000 in
theorem an_ok_X7_signAt : ak_M an_ta an_kd an_lk an_on an_X7_signAt = true := by decide +kernel
set_option maxRecDepth 100000 in
theorem an_ok_X8_init : ak_M an_ta an_kd an_lk an_on an_X8_init = true := by decide +kernel
set_option maxRecDepth 100000 in
theorem an_ok_X8_stepTowards : ak_M an_ta an_kd an_lk an_on an_X8_stepTowards = true := by decide +kernel
set_option maxRecDepth 100000 in
theorem an_ok_X8_reckonSteps : ak_M an_ta an_kd an_lk an_on an_X8_reckonSteps = true := by decide +kernel
set_option maxRecDepth 100000 in
theorem an_ok_X8_spread : ak_M an_ta an_kd an_lk an_on an_X8_spread = true := by decide +kernel
set_option maxRecDepth 100000 in
theorem an_ok_X9_init : ak_M an_ta an_kd an_lk an_on an_X9_init = true := by decide +kernel
set_option maxRecDepth 100000 in
theorem an_ok_X9_house : ak_M an_ta an_kd an_lk an_on an_X9_house = true := by decide +kernel
set_option maxRecDepth 100000 in
theorem an_ok_X9_well : ak_M an_ta an_kd an_lk an_on an_X9_well = true := by decide +kernel
set_option maxRecDepth 100000 in
theorem an_ok_X9_wind : ak_M an_ta an_kd an_lk an_on an_X9_wind = true := by decide +kernel
set_option maxRecDepth 100000 in
theorem an_ok_X9_company : ak_M an_ta an_kd an_lk an_on an_X9_company = true := by decide +kernel
set_option maxRecDepth 100000 in
theorem an_ok_X9_feed : ak_M an_ta an_kd an_lk an_on an_X9_feed = true := by decide +kernel
set_option maxRecDepth 100000 in
theorem an_ok_X9_law : ak_M an_ta an_kd an_lk an_on an_X9_law = true := by decide +kernel
set_option maxRecDepth 100000 in
theorem an_ok_X9_fault : ak_M an_ta an_kd an_lk an_on an_X9_fault = true := by decide +kernel
set_option maxRecDepth 100000 in
theorem an_ok_X9_light : ak_M an_ta an_kd an_lk an_on an_X9_light = true := by decide +kernel
set_option maxRecDepth 100000 in
theorem an_ok_X9_send : ak_M an_ta an_kd an_lk an_on an_X9_send = true := by decide +kernel
set_option maxRecDepth 100000 in
theorem an_ok_X9_pull : ak_M an_ta an_kd an_lk an_on an_X9_pull = true := by decide +kernel
set_option maxRecDepth 100000 in
theorem an_ok_X9_hours : ak_M an_ta an_kd an_lk an_on an_X9_hours = true := by decide +kernel
set_option maxRecDepth 100000 in
theorem an_ok_X9_cell : ak_M an_ta an_kd an_lk an_on an_X9_cell = true := by decide +kernel
set_option maxRecDepth 100000 in
theorem an_ok_X9_of : ak_M an_ta an_kd an_lk an_on an_X9_of = true := by decide +kernel
set_option maxRecDepth 100000 in
theorem an_ok_X9_breaks : ak_M an_ta an_kd an_lk an_on an_X9_breaks = true := by decide +kernel
set_option maxRecDepth 100000 in
theorem an_ok_X9_breaker : ak_M an_ta an_kd an_lk an_on an_X9_breaker = true := by decide +kernel
set_option maxRecDepth 100000 in
theorem an_ok_X9_count : ak_M an_ta an_kd an_lk an_on an_X9_count = true := by decide +kernel
set_option maxRecDepth 100000 in
theorem an_ok_X9_needCell : ak_M an_ta an_kd an_lk an_on an_X9_needCell = true := by decide +kernel
set_option maxRecDepth 100000 in
theorem an_ok_X9_needCrew : ak_M an_ta an_kd an_lk an_on an_X9_needCrew = true := by decide +kernel
set_option maxRecDepth 100000 in
theorem an_ok_X9_isWard : ak_M an_ta an_kd an_lk an_on an_X9_isWard = true := by decide +kernel
set_option maxRecDepth 100000 in
theorem an_ok_X9_order : ak_M an_ta an_kd an_lk an_on an_X9_order = true := by decide +kernel
set_option maxRecDepth 100000 in
theorem an_ok_X9_passHour : ak_M an_ta an_kd an_lk an_on an_X9_passHour = true := by decide +kernel
set_option maxRecDepth 100000 in
theorem an_ok_X9_crewsGo : ak_M an_ta an_kd an_lk an_on an_X9_crewsGo = true := by decide +kernel
set_option maxRecDepth 100000 in
theorem an_ok_X9_giveRoofs : ak_M an_ta an_kd an_lk an_on an_X9_giveRoofs = true := by decide +kernel
set_option maxRecDepth 100000 in
theorem an_ok_X9_giveRoof : ak_M an_ta an_kd an_lk an_on an_X9_giveRoof = true := by decide +kernel
set_option maxRecDepth 100000 in
theorem an_ok_X9_crewsWork : ak_M an_ta an_kd an_lk an_on an_X9_crewsWork = true := by decide +kernel
set_option maxRecDepth 100000 in
theorem an_ok_X9_pullAt : ak_M an_ta an_kd an_lk an_on an_X9_pullAt = true := by decide +kernel
set_option maxRecDepth 100000 in
theorem an_ok_X9_fireEats : ak_M an_ta an_kd an_lk an_on an_X9_fireEats = true := by decide +kernel
set_option maxRecDepth 100000 in
theorem an_ok_X9_putOut : ak_M an_ta an_kd an_lk an_on an_X9_putOut = true := by decide +kernel
set_option maxRecDepth 100000 in
theorem an_ok_X9_leave : ak_M an_ta an_kd an_lk an_on an_X9_leave = true := by decide +kernel
set_option maxRecDepth 100000 in
theorem an_ok_X9_ringBells : ak_M an_ta an_kd an_lk an_on an_X9_ringBells = true := by decide +kernel
set_option maxRecDepth 100000 in
theorem an_ok_X9_ringBell : ak_M an_ta an_kd an_lk an_on an_X9_ringBell = true := by decide +kernel
set_option maxRecDepth 100000 in
theorem an_ok_X9_isCalled : ak_M an_ta an_kd an_lk an_on an_X9_isCalled = true := by decide +kernel
set_option maxRecDepth 100000 in
theorem an_ok_X9_payFor : ak_M an_ta an_kd an_lk an_on an_X9_payFor = true := by decide +kernel
set_option maxRecDepth 100000 in
theorem an_ok_X9_inform : ak_M an_ta an_kd an_lk an_on an_X9_inform = true := by decide +kernel
set_option maxRecDepth 100000 in
theorem an_ok_X10_init : ak_M an_ta an_kd an_lk an_on an_X10_init = true := by decide +kernel
set_option maxRecDepth 100000 in
theorem an_ok_X10_thrown : ak_M an_ta an_kd an_lk an_on an_X10_thrown = true := by decide +kernel
set_option maxRecDepth 100000 in
theorem an_ok_X10_fail : ak_M an_ta an_kd an_lk an_on an_X10_fail = true := by decide +kernel
set_option maxRecDepth 100000 in
theorem an_ok_X10_isCell : ak_M an_ta an_kd an_lk an_on an_X10_isCell = true := by decide +kernel
set_option maxRecDepth 100000 in
theorem an_ok_X10_isCompany : ak_M an_ta an_kd an_lk an_on an_X10_isCompany = true := by decide +kernel
set_option maxRecDepth 100000 in
theorem an_ok_X10_beside : ak_M an_ta an_kd an_lk an_on an_X10_beside = true := by decide +kernel
set_option maxRecDepth 100000 in
theorem an_ok_X10_far : ak_M an_ta an_kd an_lk an_on an_X10_far = true := by decide +kernel
set_option maxRecDepth 100000 in
theorem an_ok_X10_house : ak_M an_ta an_kd an_lk an_on an_X10_house = true := by decide +kernel
set_option maxRecDepth 100000 in
theorem an_ok_X10_well : ak_M an_ta an_kd an_lk an_on an_X10_well = true := by decide +kernel
set_option maxRecDepth 100000 in
theorem an_ok_X10_wind : ak_M an_ta an_kd an_lk an_on an_X10_wind = true := by decide +kernel
set_option maxRecDepth 100000 in
theorem an_ok_X10_company : ak_M an_ta an_kd an_lk an_on an_X10_company = true := by decide +kernel
set_option maxRecDepth 100000 in
theorem an_ok_X10_feed : ak_M an_ta an_kd an_lk an_on an_X10_feed = true := by decide +kernel
set_option maxRecDepth 100000 in
theorem an_ok_X10_byteAt : ak_M an_ta an_kd an_lk an_on an_X10_byteAt = true := by decide +kernel
set_option maxRecDepth 100000 in
theorem an_ok_X10_isLetter : ak_M an_ta an_kd an_lk an_on an_X10_isLetter = true := by decide +kernel
set_option maxRecDepth 100000 in
theorem an_ok_X10_isDigit : ak_M an_ta an_kd an_lk an_on an_X10_isDigit = true := by decide +kernel
set_option maxRecDepth 100000 in
theorem an_ok_X10_step : ak_M an_ta an_kd an_lk an_on an_X10_step = true := by decide +kernel
set_option maxRecDepth 100000 in
theorem an_ok_X10_isWord : ak_M an_ta an_kd an_lk an_on an_X10_isWord = true := by decide +kernel
set_option maxRecDepth 100000 in
theorem an_ok_X10_isSign : ak_M an_ta an_kd an_lk an_on an_X10_isSign = true := by decide +kernel
set_option maxRecDepth 100000 in
theorem an_ok_X10_wrong : ak_M an_ta an_kd an_lk an_on an_X10_wrong = true := by decide +kernel
set_option maxRecDepth 100000 in
theorem an_ok_X10_emit : ak_M an_ta an_kd an_lk an_on an_X10_emit = true := by decide +kernel
set_option maxRecDepth 100000 in
theorem an_ok_X10_readLaw : ak_M an_ta an_kd an_lk an_on an_X10_readLaw = true := by decide +kernel
set_option maxRecDepth 100000 in
theorem an_ok_X10_readExpression : ak_M an_ta an_kd an_lk an_on an_X10_readExpression = true := by decide +kernel
set_option maxRecDepth 100000 in
theorem an_ok_X10_readTest : ak_M an_ta an_kd an_lk an_on an_X10_readTest = true := by decide +kernel
set_option maxRecDepth 100000 in
theorem an_ok_X10_readSum : ak_M an_ta an_kd an_lk an_on an_X10_readSum = true := by decide +kernel
set_option maxRecDepth 100000 in
theorem an_ok_X10_readPart : ak_M an_ta an_kd an_lk an_on an_X10_readPart = true := by decide +kernel
set_option maxRecDepth 100000 in
theorem an_ok_X10_law : ak_M an_ta an_kd an_lk an_on an_X10_law = true := by decide +kernel
set_option maxRecDepth 100000 in
theorem an_ok_X10_fault : ak_M an_ta an_kd an_lk an_on an_X10_fault = true := by decide +kernel
set_option maxRecDepth 100000 in
theorem an_ok_X10_force : ak_M an_ta an_kd an_lk an_on an_X10_force = true := by decide +kernel
set_option maxRecDepth 100000 in
theorem an_ok_X10_many : ak_M an_ta an_kd an_lk an_on an_X10_many = true := by decide +kernel
set_option maxRecDepth 100000 in
theorem an_ok_X10_value : ak_M an_ta an_kd an_lk an_on an_X10_value = true := by decide +kernel
set_option maxRecDepth 100000 in
theorem an_ok_X10_two : ak_M an_ta an_kd an_lk an_on an_X10_two = true := by decide +kernel
set_option maxRecDepth 100000 in
theorem an_ok_X10_told : ak_M an_ta an_kd an_lk an_on an_X10_told = true := by decide +kernel
set_option maxRecDepth 100000 in
theorem an_ok_X10_ruled : ak_M an_ta an_kd an_lk an_on an_X10_ruled = true := by decide +kernel
set_option maxRecDepth 100000 in
theorem an_ok_X10_isCalled : ak_M an_ta an_kd an_lk an_on an_X10_isCalled = true := by decide +kernel
set_option maxRecDepth 100000 in
theorem an_ok_X10_payOf : ak_M an_ta an_kd an_lk an_on an_X10_payOf = true := by decide +kernel
set_option maxRecDepth 100000 in
theorem an_ok_X10_noGoal : ak_M an_ta an_kd an_lk an_on an_X10_noGoal = true := by decide +kernel
set_option maxRecDepth 100000 in
theorem an_ok_X10_ring : ak_M an_ta an_kd an_lk an_on an_X10_ring = true := by decide +kernel
set_option maxRecDepth 100000 in
theorem an_ok_X10_light : ak_M an_ta an_kd an_lk an_on an_X10_light = true := by decide +kernel
set_option maxRecDepth 100000 in
theorem an_ok_X10_aim : ak_M an_ta an_kd an_lk an_on an_X10_aim = true := by decide +kernel
set_option maxRecDepth 100000 in
theorem an_ok_X10_send : ak_M an_ta an_kd an_lk an_on an_X10_send = true := by decide +kernel
set_option maxRecDepth 100000 in
theorem an_ok_X10_pull : ak_M an_ta an_kd an_lk an_on an_X10_pull = true := by decide +kernel
set_option maxRecDepth 100000 in
theorem an_ok_X10_isBeside : ak_M an_ta an_kd an_lk an_on an_X10_isBeside = true := by decide +kernel
set_option maxRecDepth 100000 in
theorem an_ok_X10_isOpen : ak_M an_ta an_kd an_lk an_on an_X10_isOpen = true := by decide +kernel
set_option maxRecDepth 100000 in
theorem an_ok_X10_reckon : ak_M an_ta an_kd an_lk an_on an_X10_reckon = true := by decide +kernel
set_option maxRecDepth 100000 in
theorem an_ok_X10_go : ak_M an_ta an_kd an_lk an_on an_X10_go = true := by decide +kernel
set_option maxRecDepth 100000 in
theorem an_ok_X10_roofs : ak_M an_ta an_kd an_lk an_on an_X10_roofs = true := by decide +kernel
set_option maxRecDepth 100000 in
theorem an_ok_X10_isByWell : ak_M an_ta an_kd an_lk an_on an_X10_isByWell = true := by decide +kernel
set_option maxRecDepth 100000 in
theorem an_ok_X10_work : ak_M an_ta an_kd an_lk an_on an_X10_work = true := by decide +kernel
set_option maxRecDepth 100000 in
theorem an_ok_X10_burn : ak_M an_ta an_kd an_lk an_on an_X10_burn = true := by decide +kernel
set_option maxRecDepth 100000 in
theorem an_ok_X10_warm : ak_M an_ta an_kd an_lk an_on an_X10_warm = true := by decide +kernel
set_option maxRecDepth 100000 in
theorem an_ok_X10_hours : ak_M an_ta an_kd an_lk an_on an_X10_hours = true := by decide +kernel
set_option maxRecDepth 100000 in
theorem an_ok_X10_cell : ak_M an_ta an_kd an_lk an_on an_X10_cell = true := by decide +kernel
set_option maxRecDepth 100000 in
theorem an_ok_X10_of : ak_M an_ta an_kd an_lk an_on an_X10_of = true := by decide +kernel
set_option maxRecDepth 100000 in
theorem an_ok_X10_isSource : ak_M an_ta an_kd an_lk an_on an_X10_isSource = true := by decide +kernel
set_option maxRecDepth 100000 in
theorem an_ok_X10_stays : ak_M an_ta an_kd an_lk an_on an_X10_stays = true := by decide +kernel
set_option maxRecDepth 100000 in
theorem an_ok_X10_oneMore : ak_M an_ta an_kd an_lk an_on an_X10_oneMore = true := by decide +kernel
set_option maxRecDepth 100000 in
theorem an_ok_X10_trace : ak_M an_ta an_kd an_lk an_on an_X10_trace = true := by decide +kernel
set_option maxRecDepth 100000 in
theorem an_ok_X10_least : ak_M an_ta an_kd an_lk an_on an_X10_least = true := by decide +kernel
set_option maxRecDepth 100000 in
theorem an_ok_X10_breaks : ak_M an_ta an_kd an_lk an_on an_X10_breaks = true := by decide +kernel
set_option maxRecDepth 100000 in
theorem an_ok_X10_breaker : ak_M an_ta an_kd an_lk an_on an_X10_breaker = true := by decide +kernel
set_option maxRecDepth 100000 in
theorem an_ok_X10_count : ak_M an_ta an_kd an_lk an_on an_X10_count = true := by decide +kernel
set_option maxRecDepth 100000 in
theorem an_ok_J7_fill_53178 : ak_M an_ta an_kd an_lk an_on an_J7_fill_53178 = true := by decide +kernel
set_option maxRecDepth 100000 in
theorem an_ok_L_cell : ak_M an_ta an_kd an_lk an_on an_L_cell = true := by decide +kernel
set_option maxRecDepth 100000 in
theorem an_ok_L_house : ak_M an_ta an_kd an_lk an_on an_L_house = true := by decide +kernel
set_option maxRecDepth 100000 in
theorem an_ok_L_well : ak_M an_ta an_kd an_lk an_on an_L_well = true := by decide +kernel
set_option maxRecDepth 100000 in
theorem an_ok_L_wind : ak_M an_ta an_kd an_lk an_on an_L_wind = true := by decide +kernel
set_option maxRecDepth 100000 in
theorem an_ok_L_company : ak_M an_ta an_kd an_lk an_on an_L_company = true := by decide +kernel
set_option maxRecDepth 100000 in
theorem an_ok_L_law : ak_M an_ta an_kd an_lk an_on an_L_law = true := by decide +kernel
set_option maxRecDepth 100000 in
theorem an_ok_L_light : ak_M an_ta an_kd an_lk an_on an_L_light = true := by decide +kernel
set_option maxRecDepth 100000 in
theorem an_ok_L_send : ak_M an_ta an_kd an_lk an_on an_L_send = true := by decide +kernel
set_option maxRecDepth 100000 in
theorem an_ok_L_pull : ak_M an_ta an_kd an_lk an_on an_L_pull = true := by decide +kernel
set_option maxRecDepth 100000 in
theorem an_ok_L_hours : ak_M an_ta an_kd an_lk an_on an_L_hours = true := by decide +kernel
set_option maxRecDepth 100000 in
theorem an_ok_L_cell_ : ak_M an_ta an_kd an_lk an_on an_L_cell_ = true := by decide +kernel
set_option maxRecDepth 100000 in
theorem an_ok_L_of : ak_M an_ta an_kd an_lk an_on an_L_of = true := by decide +kernel
set_option maxRecDepth 100000 in
theorem an_ok_L_breaks : ak_M an_ta an_kd an_lk an_on an_L_breaks = true := by decide +kernel
set_option maxRecDepth 100000 in
theorem an_ok_L_breaker : ak_M an_ta an_kd an_lk an_on an_L_breaker = true := by decide +kernel
set_option maxRecDepth 100000 in
theorem an_ok_L_count : ak_M an_ta an_kd an_lk an_on an_L_count = true := by decide +kernel
