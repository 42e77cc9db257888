set_option maxRecDepth 20000 in
theorem gL_law_X8_init : GoodIn wsL_law (wsX8_init) := ggL_law_X8_init
set_option maxRecDepth 20000 in
theorem gL_law_L_undo : GoodIn wsL_law (va_wsS RL 110 yL_undo wsL_undo) := goodIn_app (goodIn_of _ (by decide +kernel)) ggL_law_L_undo
set_option maxRecDepth 20000 in
theorem gL_law_L_info : GoodIn wsL_law (va_wsS RL 103 yL_info wsL_info) := goodIn_app (goodIn_of _ (by decide +kernel)) ggL_law_L_info
set_option maxRecDepth 20000 in
theorem gL_law_X8_applying : GoodIn wsL_law (wsV RL 174 RX8 yX8_applying wsX8_applying) := goodIn_app (goodIn_of _ (by decide +kernel)) ggL_law_X8_applying
set_option maxRecDepth 20000 in
theorem gL_law_L_refused : GoodIn wsL_law (va_wsS RL 178 yL_refused wsL_refused) := goodIn_app (goodIn_of _ (by decide +kernel)) ggL_law_L_refused
set_option maxRecDepth 20000 in
theorem gL_law_L_cell : GoodIn wsL_law (va_wsS RL 182 yL_cell wsL_cell) := goodIn_app (goodIn_of _ (by decide +kernel)) ggL_law_L_cell
set_option maxRecDepth 20000 in
theorem gL_law_L_low : GoodIn wsL_law (va_wsS RL 186 yL_low wsL_low) := goodIn_app (goodIn_of _ (by decide +kernel)) ggL_law_L_low
set_option maxRecDepth 20000 in
theorem gL_law_L_begin : GoodIn wsL_law (va_wsS RL 121 yL_begin wsL_begin) := goodIn_app (goodIn_of _ (by decide +kernel)) ggL_law_L_begin
set_option maxRecDepth 20000 in
theorem gL_law_L_addFuel : GoodIn wsL_law (va_wsS RL 129 yL_addFuel wsL_addFuel) := goodIn_app (goodIn_of _ (by decide +kernel)) ggL_law_L_addFuel
set_option maxRecDepth 20000 in
theorem gL_law_L_setDoor : GoodIn wsL_law (va_wsS RL 123 yL_setDoor wsL_setDoor) := goodIn_app (goodIn_of _ (by decide +kernel)) ggL_law_L_setDoor
set_option maxRecDepth 20000 in
theorem gL_law_L_setTarget : GoodIn wsL_law (va_wsS RL 108 yL_setTarget wsL_setTarget) := goodIn_app (goodIn_of _ (by decide +kernel)) ggL_law_L_setTarget
set_option maxRecDepth 20000 in
theorem gL_law_L_set : GoodIn wsL_law (va_wsS RL 131 yL_set wsL_set) := goodIn_app (goodIn_of _ (by decide +kernel)) ggL_law_L_set
set_option maxRecDepth 20000 in
theorem gL_law_L_setSmoke : GoodIn wsL_law (va_wsS RL 133 yL_setSmoke wsL_setSmoke) := goodIn_app (goodIn_of _ (by decide +kernel)) ggL_law_L_setSmoke
set_option maxRecDepth 20000 in
theorem gL_law_L_addSensor : GoodIn wsL_law (va_wsS RL 138 yL_addSensor wsL_addSensor) := goodIn_app (goodIn_of _ (by decide +kernel)) ggL_law_L_addSensor
set_option maxRecDepth 20000 in
theorem gL_law_L_setFault : GoodIn wsL_law (va_wsS RL 141 yL_setFault wsL_setFault) := goodIn_app (goodIn_of _ (by decide +kernel)) ggL_law_L_setFault
set_option maxRecDepth 20000 in
theorem gL_law_L_addRule : GoodIn wsL_law (va_wsS RL 145 yL_addRule wsL_addRule) := goodIn_app (goodIn_of _ (by decide +kernel)) ggL_law_L_addRule
set_option maxRecDepth 20000 in
theorem gL_law_L_removeRule : GoodIn wsL_law (va_wsS RL 148 yL_removeRule wsL_removeRule) := goodIn_app (goodIn_of _ (by decide +kernel)) ggL_law_L_removeRule
set_option maxRecDepth 20000 in
theorem gL_law_L_addEvent : GoodIn wsL_law (va_wsS RL 150 yL_addEvent wsL_addEvent) := goodIn_app (goodIn_of _ (by decide +kernel)) ggL_law_L_addEvent
set_option maxRecDepth 20000 in
theorem gL_law_L_mute : GoodIn wsL_law (va_wsS RL 154 yL_mute wsL_mute) := goodIn_app (goodIn_of _ (by decide +kernel)) ggL_law_L_mute
set_option maxRecDepth 20000 in
theorem gL_law_L_pass : GoodIn wsL_law (va_wsS RL 156 yL_pass wsL_pass) := goodIn_app (goodIn_of _ (by decide +kernel)) ggL_law_L_pass
set_option maxRecDepth 20000 in
theorem gL_law_L_isHouse : GoodIn wsL_law (va_wsS RL 189 yL_isHouse wsL_isHouse) := goodIn_app (goodIn_of _ (by decide +kernel)) ggL_law_L_isHouse
set_option maxRecDepth 20000 in
theorem gL_law_L_isThought : GoodIn wsL_law (va_wsS RL 192 yL_isThought wsL_isThought) := goodIn_app (goodIn_of _ (by decide +kernel)) ggL_law_L_isThought
set_option maxRecDepth 20000 in
theorem gL_law_L_isPeak : GoodIn wsL_law (va_wsS RL 196 yL_isPeak wsL_isPeak) := goodIn_app (goodIn_of _ (by decide +kernel)) ggL_law_L_isPeak
set_option maxRecDepth 20000 in
theorem gL_law_L_isNeeded : GoodIn wsL_law (va_wsS RL 200 yL_isNeeded wsL_isNeeded) := goodIn_app (goodIn_of _ (by decide +kernel)) ggL_law_L_isNeeded
