/-! each instruction is that of the bytes -/
set_option maxRecDepth 100000 in
theorem an_ok_X0_init : ak_M an_ta an_kd an_lk an_on an_X0_init = true := by decide +kernel
set_option maxRecDepth 100000 in
theorem an_ok_X0_has : ak_M an_ta an_kd an_lk an_on an_X0_has = true := by decide +kernel
set_option maxRecDepth 100000 in
theorem an_ok_X0_build : ak_M an_ta an_kd an_lk an_on an_X0_build = true := by decide +kernel
set_option maxRecDepth 100000 in
theorem an_ok_X0_tally : ak_M an_ta an_kd an_lk an_on an_X0_tally = true := by decide +kernel
set_option maxRecDepth 100000 in
theorem an_ok_X0_warmUp : ak_M an_ta an_kd an_lk an_on an_X0_warmUp = true := by decide +kernel
set_option maxRecDepth 100000 in
theorem an_ok_X1_init : ak_M an_ta an_kd an_lk an_on an_X1_init = true := by decide +kernel
set_option maxRecDepth 100000 in
theorem an_ok_X1_has : ak_M an_ta an_kd an_lk an_on an_X1_has = true := by decide +kernel
set_option maxRecDepth 100000 in
theorem an_ok_X1_enlist : ak_M an_ta an_kd an_lk an_on an_X1_enlist = true := by decide +kernel
set_option maxRecDepth 100000 in
theorem an_ok_X1_allQuarrels : ak_M an_ta an_kd an_lk an_on an_X1_allQuarrels = true := by decide +kernel
set_option maxRecDepth 100000 in
theorem an_ok_X2_init : ak_M an_ta an_kd an_lk an_on an_X2_init = true := by decide +kernel
set_option maxRecDepth 100000 in
theorem an_ok_X3_init : ak_M an_ta an_kd an_lk an_on an_X3_init = true := by decide +kernel
set_option maxRecDepth 100000 in
theorem an_ok_X4_init : ak_M an_ta an_kd an_lk an_on an_X4_init = true := by decide +kernel
set_option maxRecDepth 100000 in
theorem an_ok_X4_enter : ak_M an_ta an_kd an_lk an_on an_X4_enter = true := by decide +kernel
set_option maxRecDepth 100000 in
theorem an_ok_X4_begin : ak_M an_ta an_kd an_lk an_on an_X4_begin = true := by decide +kernel
set_option maxRecDepth 100000 in
theorem an_ok_X4_inForce : ak_M an_ta an_kd an_lk an_on an_X4_inForce = true := by decide +kernel
set_option maxRecDepth 100000 in
theorem an_ok_X5_init : ak_M an_ta an_kd an_lk an_on an_X5_init = true := by decide +kernel
set_option maxRecDepth 100000 in
theorem an_ok_X5_reads : ak_M an_ta an_kd an_lk an_on an_X5_reads = true := by decide +kernel
set_option maxRecDepth 100000 in
theorem an_ok_X6_init : ak_M an_ta an_kd an_lk an_on an_X6_init = true := by decide +kernel
set_option maxRecDepth 100000 in
theorem an_ok_X6_put : ak_M an_ta an_kd an_lk an_on an_X6_put = true := by decide +kernel
set_option maxRecDepth 100000 in
theorem an_ok_X7_init : ak_M an_ta an_kd an_lk an_on an_X7_init = true := by decide +kernel
set_option maxRecDepth 100000 in
theorem an_ok_X7_scan : ak_M an_ta an_kd an_lk an_on an_X7_scan = true := by decide +kernel
set_option maxRecDepth 100000 in
theorem an_ok_X7_add : ak_M an_ta an_kd an_lk an_on an_X7_add = true := by decide +kernel
set_option maxRecDepth 100000 in
theorem an_ok_X8_init : ak_M an_ta an_kd an_lk an_on an_X8_init = true := by decide +kernel
set_option maxRecDepth 100000 in
theorem an_ok_X9_init : ak_M an_ta an_kd an_lk an_on an_X9_init = true := by decide +kernel
set_option maxRecDepth 100000 in
theorem an_ok_X9_house : ak_M an_ta an_kd an_lk an_on an_X9_house = true := by decide +kernel
set_option maxRecDepth 100000 in
theorem an_ok_X9_well : ak_M an_ta an_kd an_lk an_on an_X9_well = true := by decide +kernel
set_option maxRecDepth 100000 in
theorem an_ok_X9_wind : ak_M an_ta an_kd an_lk an_on an_X9_wind = true := by decide +kernel
set_option maxRecDepth 100000 in
theorem an_ok_X9_company : ak_M an_ta an_kd an_lk an_on an_X9_company = true := by decide +kernel
set_option maxRecDepth 100000 in
theorem an_ok_X9_feed : ak_M an_ta an_kd an_lk an_on an_X9_feed = true := by decide +kernel
set_option maxRecDepth 100000 in
theorem an_ok_X9_law : ak_M an_ta an_kd an_lk an_on an_X9_law = true := by decide +kernel
set_option maxRecDepth 100000 in
theorem an_ok_X9_fault : ak_M an_ta an_kd an_lk an_on an_X9_fault = true := by decide +kernel
set_option maxRecDepth 100000 in
theorem an_ok_X9_light : ak_M an_ta an_kd an_lk an_on an_X9_light = true := by decide +kernel
set_option maxRecDepth 100000 in
theorem an_ok_X9_send : ak_M an_ta an_kd an_lk an_on an_X9_send = true := by decide +kernel
set_option maxRecDepth 100000 in
theorem an_ok_X9_pull : ak_M an_ta an_kd an_lk an_on an_X9_pull = true := by decide +kernel
set_option maxRecDepth 100000 in
theorem an_ok_X9_hours : ak_M an_ta an_kd an_lk an_on an_X9_hours = true := by decide +kernel
set_option maxRecDepth 100000 in
theorem an_ok_X9_cell : ak_M an_ta an_kd an_lk an_on an_X9_cell = true := by decide +kernel
set_option maxRecDepth 100000 in
theorem an_ok_X9_of : ak_M an_ta an_kd an_lk an_on an_X9_of = true := by decide +kernel
set_option maxRecDepth 100000 in
theorem an_ok_X9_breaks : ak_M an_ta an_kd an_lk an_on an_X9_breaks = true := by decide +kernel
set_option maxRecDepth 100000 in
theorem an_ok_X9_breaker : ak_M an_ta an_kd an_lk an_on an_X9_breaker = true := by decide +kernel
set_option maxRecDepth 100000 in
theorem an_ok_X9_count : ak_M an_ta an_kd an_lk an_on an_X9_count = true := by decide +kernel
set_option maxRecDepth 100000 in
theorem an_ok_X9_needCell : ak_M an_ta an_kd an_lk an_on an_X9_needCell = true := by decide +kernel
set_option maxRecDepth 100000 in
theorem an_ok_X9_needCrew : ak_M an_ta an_kd an_lk an_on an_X9_needCrew = true := by decide +kernel
set_option maxRecDepth 100000 in
theorem an_ok_X9_isWard : ak_M an_ta an_kd an_lk an_on an_X9_isWard = true := by decide +kernel
set_option maxRecDepth 100000 in
theorem an_ok_X9_order : ak_M an_ta an_kd an_lk an_on an_X9_order = true := by decide +kernel
set_option maxRecDepth 100000 in
theorem an_ok_X9_passHour : ak_M an_ta an_kd an_lk an_on an_X9_passHour = true := by decide +kernel
set_option maxRecDepth 100000 in
theorem an_ok_X9_crewsGo : ak_M an_ta an_kd an_lk an_on an_X9_crewsGo = true := by decide +kernel
set_option maxRecDepth 100000 in
theorem an_ok_X9_giveRoofs : ak_M an_ta an_kd an_lk an_on an_X9_giveRoofs = true := by decide +kernel
set_option maxRecDepth 100000 in
theorem an_ok_X9_crewsWork : ak_M an_ta an_kd an_lk an_on an_X9_crewsWork = true := by decide +kernel
set_option maxRecDepth 100000 in
theorem an_ok_X9_fireEats : ak_M an_ta an_kd an_lk an_on an_X9_fireEats = true := by decide +kernel
set_option maxRecDepth 100000 in
theorem an_ok_X9_ringBells : ak_M an_ta an_kd an_lk an_on an_X9_ringBells = true := by decide +kernel
set_option maxRecDepth 100000 in
theorem an_ok_X10_init : ak_M an_ta an_kd an_lk an_on an_X10_init = true := by decide +kernel
set_option maxRecDepth 100000 in
theorem an_ok_X10_thrown : ak_M an_ta an_kd an_lk an_on an_X10_thrown = true := by decide +kernel
set_option maxRecDepth 100000 in
theorem an_ok_X10_fail : ak_M an_ta an_kd an_lk an_on an_X10_fail = true := by decide +kernel
set_option maxRecDepth 100000 in
theorem an_ok_X10_isCell : ak_M an_ta an_kd an_lk an_on an_X10_isCell = true := by decide +kernel
set_option maxRecDepth 100000 in
theorem an_ok_X10_isCompany : ak_M an_ta an_kd an_lk an_on an_X10_isCompany = true := by decide +kernel
set_option maxRecDepth 100000 in
theorem an_ok_X10_house : ak_M an_ta an_kd an_lk an_on an_X10_house = true := by decide +kernel
set_option maxRecDepth 100000 in
theorem an_ok_X10_well : ak_M an_ta an_kd an_lk an_on an_X10_well = true := by decide +kernel
set_option maxRecDepth 100000 in
theorem an_ok_X10_wind : ak_M an_ta an_kd an_lk an_on an_X10_wind = true := by decide +kernel
set_option maxRecDepth 100000 in
theorem an_ok_X10_company : ak_M an_ta an_kd an_lk an_on an_X10_company = true := by decide +kernel
set_option maxRecDepth 100000 in
theorem an_ok_X10_feed : ak_M an_ta an_kd an_lk an_on an_X10_feed = true := by decide +kernel
set_option maxRecDepth 100000 in
theorem an_ok_X10_byteAt : ak_M an_ta an_kd an_lk an_on an_X10_byteAt = true := by decide +kernel
set_option maxRecDepth 100000 in
theorem an_ok_X10_step : ak_M an_ta an_kd an_lk an_on an_X10_step = true := by decide +kernel
set_option maxRecDepth 100000 in
theorem an_ok_X10_readLaw : ak_M an_ta an_kd an_lk an_on an_X10_readLaw = true := by decide +kernel
set_option maxRecDepth 100000 in
theorem an_ok_X10_law : ak_M an_ta an_kd an_lk an_on an_X10_law = true := by decide +kernel
set_option maxRecDepth 100000 in
theorem an_ok_X10_fault : ak_M an_ta an_kd an_lk an_on an_X10_fault = true := by decide +kernel
set_option maxRecDepth 100000 in
theorem an_ok_X10_force : ak_M an_ta an_kd an_lk an_on an_X10_force = true := by decide +kernel
set_option maxRecDepth 100000 in
theorem an_ok_X10_many : ak_M an_ta an_kd an_lk an_on an_X10_many = true := by decide +kernel
set_option maxRecDepth 100000 in
theorem an_ok_X10_light : ak_M an_ta an_kd an_lk an_on an_X10_light = true := by decide +kernel
set_option maxRecDepth 100000 in
theorem an_ok_X10_aim : ak_M an_ta an_kd an_lk an_on an_X10_aim = true := by decide +kernel
set_option maxRecDepth 100000 in
theorem an_ok_X10_send : ak_M an_ta an_kd an_lk an_on an_X10_send = true := by decide +kernel
set_option maxRecDepth 100000 in
theorem an_ok_X10_pull : ak_M an_ta an_kd an_lk an_on an_X10_pull = true := by decide +kernel
set_option maxRecDepth 100000 in
theorem an_ok_X10_roofs : ak_M an_ta an_kd an_lk an_on an_X10_roofs = true := by decide +kernel
set_option maxRecDepth 100000 in
theorem an_ok_X10_warm : ak_M an_ta an_kd an_lk an_on an_X10_warm = true := by decide +kernel
set_option maxRecDepth 100000 in
theorem an_ok_X10_hours : ak_M an_ta an_kd an_lk an_on an_X10_hours = true := by decide +kernel
set_option maxRecDepth 100000 in
theorem an_ok_X10_cell : ak_M an_ta an_kd an_lk an_on an_X10_cell = true := by decide +kernel
set_option maxRecDepth 100000 in
theorem an_ok_X10_of : ak_M an_ta an_kd an_lk an_on an_X10_of = true := by decide +kernel
set_option maxRecDepth 100000 in
theorem an_ok_X10_breaks : ak_M an_ta an_kd an_lk an_on an_X10_breaks = true := by decide +kernel
set_option maxRecDepth 100000 in
theorem an_ok_X10_breaker : ak_M an_ta an_kd an_lk an_on an_X10_breaker = true := by decide +kernel
set_option maxRecDepth 100000 in
theorem an_ok_X10_count : ak_M an_ta an_kd an_lk an_on an_X10_count = true := by decide +kernel
set_option maxRecDepth 100000 in
theorem an_ok_J7_fill_53178 : ak_M an_ta an_kd an_lk an_on an_J7_fill_53178 = true := by decide +kernel
set_option maxRecDepth 100000 in
theorem an_ok_L_cell : ak_M an_ta an_kd an_lk an_on an_L_cell = true := by decide +kernel
set_option maxRecDepth 100000 in
theorem an_ok_L_house : ak_M an_ta an_kd an_lk an_on an_L_house = true := by decide +kernel
set_option maxRecDepth 100000 in
theorem an_ok_L_well : ak_M an_ta an_kd an_lk an_on an_L_well = true := by decide +kernel
set_option maxRecDepth 100000 in
theorem an_ok_L_wind : ak_M an_ta an_kd an_lk an_on an_L_wind = true := by decide +kernel
set_option maxRecDepth 100000 in
theorem an_ok_L_company : ak_M an_ta an_kd an_lk an_on an_L_company = true := by decide +kernel
set_option maxRecDepth 100000 in
theorem an_ok_L_law : ak_M an_ta an_kd an_lk an_on an_L_law = true := by decide +kernel
set_option maxRecDepth 100000 in
theorem an_ok_L_light : ak_M an_ta an_kd an_lk an_on an_L_light = true := by decide +kernel
set_option maxRecDepth 100000 in
theorem an_ok_L_send : ak_M an_ta an_kd an_lk an_on an_L_send = true := by decide +kernel
set_option maxRecDepth 100000 in
theorem an_ok_L_pull : ak_M an_ta an_kd an_lk an_on an_L_pull = true := by decide +kernel
set_option maxRecDepth 100000 in
theorem an_ok_L_hours : ak_M an_ta an_kd an_lk an_on an_L_hours = true := by decide +kernel
set_option maxRecDepth 100000 in
theorem an_ok_L_cell_ : ak_M an_ta an_kd an_lk an_on an_L_cell_ = true := by decide +kernel
set_option maxRecDepth 100000 in
theorem an_ok_L_of : ak_M an_ta an_kd an_lk an_on an_L_of = true := by decide +kernel
set_option maxRecDepth 100000 in
theorem an_ok_L_breaks : ak_M an_ta an_kd an_lk an_on an_L_breaks = true := by decide +kernel
set_option maxRecDepth 100000 in
theorem an_ok_L_breaker : ak_M an_ta an_kd an_lk an_on an_L_breaker = true := by decide +kernel
set_option maxRecDepth 100000 in
theorem an_ok_L_count : ak_M an_ta an_kd an_lk an_on an_L_count = true := by decide +kernel
theorem an_oks : ∀ (q : Nat) (M : ai_M), an_ms[q]? = some M → ai_okM an_ms an_lk an_on M := by
  intro q M h
  match q, h with
  | 0, h => cases h; exact ak_M_ok an_tas (ak_arrs an_ars) an_cs an_K0 an_ok_X0_init
  | 1, h => cases h; exact ak_M_ok an_tas (ak_arrs an_ars) an_cs an_K0 an_ok_X0_init
  | 2, h => cases h; exact ak_M_ok an_tas (ak_arrs an_ars) an_cs an_K0 an_ok_X0_has
  | 3, h => cases h; exact ak_M_ok an_tas (ak_arrs an_ars) an_cs an_K0 an_ok_X0_build
  | 4, h => cases h; exact ak_M_ok an_tas (ak_arrs an_ars) an_cs an_K0 an_ok_X0_tally
  | 5, h => cases h; exact ak_M_ok an_tas (ak_arrs an_ars) an_cs an_K0 an_ok_X0_warmUp
  | 6, h => cases h; exact ak_M_ok an_tas (ak_arrs an_ars) an_cs an_K1 an_ok_X1_init
  | 7, h => cases h; exact ak_M_ok an_tas (ak_arrs an_ars) an_cs an_K1 an_ok_X1_has
  | 8, h => cases h; exact ak_M_ok an_tas (ak_arrs an_ars) an_cs an_K1 an_ok_X1_enlist
  | 9, h => cases h; exact ak_M_ok an_tas (ak_arrs an_ars) an_cs an_K1 an_ok_X1_allQuarrels
  | 10, h => cases h; exact ak_M_ok an_tas (ak_arrs an_ars) an_cs an_K2 an_ok_X2_init
  | 11, h => cases h; exact ak_M_ok an_tas (ak_arrs an_ars) an_cs an_K3 an_ok_X3_init
  | 12, h => cases h; exact ak_M_ok an_tas (ak_arrs an_ars) an_cs an_K4 an_ok_X4_init
  | 13, h => cases h; exact ak_M_ok an_tas (ak_arrs an_ars) an_cs an_K4 an_ok_X4_enter
  | 14, h => cases h; exact ak_M_ok an_tas (ak_arrs an_ars) an_cs an_K4 an_ok_X4_begin
  | 15, h => cases h; exact ak_M_ok an_tas (ak_arrs an_ars) an_cs an_K4 an_ok_X4_inForce
  | 16, h => cases h; exact ak_M_ok an_tas (ak_arrs an_ars) an_cs an_K5 an_ok_X5_init
  | 17, h => cases h; exact ak_M_ok an_tas (ak_arrs an_ars) an_cs an_K5 an_ok_X5_reads
  | 18, h => cases h; exact ak_M_ok an_tas (ak_arrs an_ars) an_cs an_K6 an_ok_X6_init
  | 19, h => cases h; exact ak_M_ok an_tas (ak_arrs an_ars) an_cs an_K6 an_ok_X6_put
  | 20, h => cases h; exact ak_M_ok an_tas (ak_arrs an_ars) an_cs an_K7 an_ok_X7_init
  | 21, h => cases h; exact ak_M_ok an_tas (ak_arrs an_ars) an_cs an_K7 an_ok_X7_scan
  | 22, h => cases h; exact ak_M_ok an_tas (ak_arrs an_ars) an_cs an_K7 an_ok_X7_add
  | 23, h => cases h; exact ak_M_ok an_tas (ak_arrs an_ars) an_cs an_K8 an_ok_X8_init
  | 24, h => cases h; exact ak_M_ok an_tas (ak_arrs an_ars) an_cs an_K9 an_ok_X9_init
  | 25, h => cases h; exact ak_M_ok an_tas (ak_arrs an_ars) an_cs an_K9 an_ok_X9_house
  | 26, h => cases h; exact ak_M_ok an_tas (ak_arrs an_ars) an_cs an_K9 an_ok_X9_well
  | 27, h => cases h; exact ak_M_ok an_tas (ak_arrs an_ars) an_cs an_K9 an_ok_X9_wind
  | 28, h => cases h; exact ak_M_ok an_tas (ak_arrs an_ars) an_cs an_K9 an_ok_X9_company
  | 29, h => cases h; exact ak_M_ok an_tas (ak_arrs an_ars) an_cs an_K9 an_ok_X9_feed
  | 30, h => cases h; exact ak_M_ok an_tas (ak_arrs an_ars) an_cs an_K9 an_ok_X9_law
  | 31, h => cases h; exact ak_M_ok an_tas (ak_arrs an_ars) an_cs an_K9 an_ok_X9_fault
  | 32, h => cases h; exact ak_M_ok an_tas (ak_arrs an_ars) an_cs an_K9 an_ok_X9_light
  | 33, h => cases h; exact ak_M_ok an_tas (ak_arrs an_ars) an_cs an_K9 an_ok_X9_send
  | 34, h => cases h; exact ak_M_ok an_tas (ak_arrs an_ars) an_cs an_K9 an_ok_X9_pull
  | 35, h => cases h; exact ak_M_ok an_tas (ak_arrs an_ars) an_cs an_K9 an_ok_X9_hours
  | 36, h => cases h; exact ak_M_ok an_tas (ak_arrs an_ars) an_cs an_K9 an_ok_X9_cell
  | 37, h => cases h; exact ak_M_ok an_tas (ak_arrs an_ars) an_cs an_K9 an_ok_X9_of
  | 38, h => cases h; exact ak_M_ok an_tas (ak_arrs an_ars) an_cs an_K9 an_ok_X9_breaks
  | 39, h => cases h; exact ak_M_ok an_tas (ak_arrs an_ars) an_cs an_K9 an_ok_X9_breaker
  | 40, h => cases h; exact ak_M_ok an_tas (ak_arrs an_ars) an_cs an_K9 an_ok_X9_count
  | 41, h => cases h; exact ak_M_ok an_tas (ak_arrs an_ars) an_cs an_K9 an_ok_X9_needCell
  | 42, h => cases h; exact ak_M_ok an_tas (ak_arrs an_ars) an_cs an_K9 an_ok_X9_needCrew
  | 43, h => cases h; exact ak_M_ok an_tas (ak_arrs an_ars) an_cs an_K9 an_ok_X9_isWard
  | 44, h => cases h; exact ak_M_ok an_tas (ak_arrs an_ars) an_cs an_K9 an_ok_X9_order
  | 45, h => cases h; exact ak_M_ok an_tas (ak_arrs an_ars) an_cs an_K9 an_ok_X9_passHour
  | 46, h => cases h; exact ak_M_ok an_tas (ak_arrs an_ars) an_cs an_K9 an_ok_X9_crewsGo
  | 47, h => cases h; exact ak_M_ok an_tas (ak_arrs an_ars) an_cs an_K9 an_ok_X9_giveRoofs
  | 48, h => cases h; exact ak_M_ok an_tas (ak_arrs an_ars) an_cs an_K9 an_ok_X9_crewsWork
  | 49, h => cases h; exact ak_M_ok an_tas (ak_arrs an_ars) an_cs an_K9 an_ok_X9_fireEats
  | 50, h => cases h; exact ak_M_ok an_tas (ak_arrs an_ars) an_cs an_K9 an_ok_X9_ringBells
  | 51, h => cases h; exact ak_M_ok an_tas (ak_arrs an_ars) an_cs an_K10 an_ok_X10_init
  | 52, h => cases h; exact ak_M_ok an_tas (ak_arrs an_ars) an_cs an_K10 an_ok_X10_thrown
  | 53, h => cases h; exact ak_M_ok an_tas (ak_arrs an_ars) an_cs an_K10 an_ok_X10_fail
  | 54, h => cases h; exact ak_M_ok an_tas (ak_arrs an_ars) an_cs an_K10 an_ok_X10_isCell
  | 55, h => cases h; exact ak_M_ok an_tas (ak_arrs an_ars) an_cs an_K10 an_ok_X10_isCompany
  | 56, h => cases h; exact ak_M_ok an_tas (ak_arrs an_ars) an_cs an_K10 an_ok_X10_house
  | 57, h => cases h; exact ak_M_ok an_tas (ak_arrs an_ars) an_cs an_K10 an_ok_X10_well
  | 58, h => cases h; exact ak_M_ok an_tas (ak_arrs an_ars) an_cs an_K10 an_ok_X10_wind
  | 59, h => cases h; exact ak_M_ok an_tas (ak_arrs an_ars) an_cs an_K10 an_ok_X10_company
  | 60, h => cases h; exact ak_M_ok an_tas (ak_arrs an_ars) an_cs an_K10 an_ok_X10_feed
  | 61, h => cases h; exact ak_M_ok an_tas (ak_arrs an_ars) an_cs an_K10 an_ok_X10_byteAt
  | 62, h => cases h; exact ak_M_ok an_tas (ak_arrs an_ars) an_cs an_K10 an_ok_X10_step
  | 63, h => cases h; exact ak_M_ok an_tas (ak_arrs an_ars) an_cs an_K10 an_ok_X10_readLaw
  | 64, h => cases h; exact ak_M_ok an_tas (ak_arrs an_ars) an_cs an_K10 an_ok_X10_law
  | 65, h => cases h; exact ak_M_ok an_tas (ak_arrs an_ars) an_cs an_K10 an_ok_X10_fault
  | 66, h => cases h; exact ak_M_ok an_tas (ak_arrs an_ars) an_cs an_K10 an_ok_X10_force
  | 67, h => cases h; exact ak_M_ok an_tas (ak_arrs an_ars) an_cs an_K10 an_ok_X10_many
  | 68, h => cases h; exact ak_M_ok an_tas (ak_arrs an_ars) an_cs an_K10 an_ok_X10_light
  | 69, h => cases h; exact ak_M_ok an_tas (ak_arrs an_ars) an_cs an_K10 an_ok_X10_aim
  | 70, h => cases h; exact ak_M_ok an_tas (ak_arrs an_ars) an_cs an_K10 an_ok_X10_send
  | 71, h => cases h; exact ak_M_ok an_tas (ak_arrs an_ars) an_cs an_K10 an_ok_X10_pull
  | 72, h => cases h; exact ak_M_ok an_tas (ak_arrs an_ars) an_cs an_K10 an_ok_X10_roofs
  | 73, h => cases h; exact ak_M_ok an_tas (ak_arrs an_ars) an_cs an_K10 an_ok_X10_warm
  | 74, h => cases h; exact ak_M_ok an_tas (ak_arrs an_ars) an_cs an_K10 an_ok_X10_hours
  | 75, h => cases h; exact ak_M_ok an_tas (ak_arrs an_ars) an_cs an_K10 an_ok_X10_cell
  | 76, h => cases h; exact ak_M_ok an_tas (ak_arrs an_ars) an_cs an_K10 an_ok_X10_of
  | 77, h => cases h; exact ak_M_ok an_tas (ak_arrs an_ars) an_cs an_K10 an_ok_X10_breaks
  | 78, h => cases h; exact ak_M_ok an_tas (ak_arrs an_ars) an_cs an_K10 an_ok_X10_breaker
  | 79, h => cases h; exact ak_M_ok an_tas (ak_arrs an_ars) an_cs an_K10 an_ok_X10_count
  | 80, h => cases h; exact ak_M_ok an_tas (ak_arrs an_ars) an_cs an_K12 an_ok_J7_fill_53178
  | 81, h => cases h; exact ak_M_ok an_tas (ak_arrs an_ars) an_cs an_K11 an_ok_L_cell
  | 82, h => cases h; exact ak_M_ok an_tas (ak_arrs an_ars) an_cs an_K11 an_ok_L_house
  | 83, h => cases h; exact ak_M_ok an_tas (ak_arrs an_ars) an_cs an_K11 an_ok_L_well
  | 84, h => cases h; exact ak_M_ok an_tas (ak_arrs an_ars) an_cs an_K11 an_ok_L_wind
  | 85, h => cases h; exact ak_M_ok an_tas (ak_arrs an_ars) an_cs an_K11 an_ok_L_company
  | 86, h => cases h; exact ak_M_ok an_tas (ak_arrs an_ars) an_cs an_K11 an_ok_L_law
  | 87, h => cases h; exact ak_M_ok an_tas (ak_arrs an_ars) an_cs an_K11 an_ok_L_light
  | 88, h => cases h; exact ak_M_ok an_tas (ak_arrs an_ars) an_cs an_K11 an_ok_L_send
  | 89, h => cases h; exact ak_M_ok an_tas (ak_arrs an_ars) an_cs an_K11 an_ok_L_pull
  | 90, h => cases h; exact ak_M_ok an_tas (ak_arrs an_ars) an_cs an_K11 an_ok_L_hours
  | 91, h => cases h; exact ak_M_ok an_tas (ak_arrs an_ars) an_cs an_K11 an_ok_L_cell_
  | 92, h => cases h; exact ak_M_ok an_tas (ak_arrs an_ars) an_cs an_K11 an_ok_L_of
  | 93, h => cases h; exact ak_M_ok an_tas (ak_arrs an_ars) an_cs an_K11 an_ok_L_breaks
  | 94, h => cases h; exact ak_M_ok an_tas (ak_arrs an_ars) an_cs an_K11 an_ok_L_breaker
  | 95, h => cases h; exact ak_M_ok an_tas (ak_arrs an_ars) an_cs an_K11 an_ok_L_count
  | n + 96, h => simp [an_ms] at h
