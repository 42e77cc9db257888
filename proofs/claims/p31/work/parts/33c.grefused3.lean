set_option maxRecDepth 20000 in
theorem ggL_refused_L_neededSensors : GoodIn wsL_refused wsL_neededSensors := goodIn_ca (goodIn_ca (goodIn_r _ [604, 304, 9, 605, 606, 607, 13, 608, 309, 310, 15, 16, 17, 184, 567, 171, 172, 387, 361, 259, 260, 88, 261, 90, 18, 19, 20, 569, 81, 82, 24, 83, 36, 34, 26, 39, 28, 41, 43, 84, 85, 86, 87, 89, 91, 92, 93, 94, 95, 96, 97, 98, 99, 100, 101, 102, 103, 104, 105, 48, 106, 50, 55, 57, 56, 107, 108, 109, 110, 111, 112, 113, 114, 115, 116, 117, 118, 119, 120, 121, 122, 123, 124, 125, 126, 127, 128, 129, 130, 131, 132, 133, 134, 135, 136, 137, 138, 139, 140, 141, 142, 143, 144, 145, 146, 147, 148, 149, 150, 570, 571, 572, 573, 467, 476, 477, 478, 479, 40, 480, 481, 482, 483, 484, 485, 486, 487, 488, 489, 490, 491, 492, 493, 494, 27, 236, 31, 495, 496, 497, 498, 224, 225, 226, 499, 335, 336, 337, 338, 440, 389, 390, 391, 500, 501, 502, 503, 445, 446, 447, 448, 45, 46, 47, 49, 504, 505, 506, 507, 508, 509, 510, 511, 512, 513, 514, 515, 190, 51, 52, 53, 54, 516, 517, 518, 519, 520, 521, 522, 523, 524, 525, 526, 527, 221, 222, 223, 238, 239, 240, 241, 233, 232, 231, 33, 242, 243, 244, 245, 528, 529, 530, 531, 532, 533, 534, 535, 536, 35, 193, 194, 195, 196, 197, 198, 199, 200, 29, 201, 202, 203, 204, 205, 206, 207, 208, 209, 210, 211, 212, 213, 214, 215, 216, 217, 218, 219, 537, 538, 539, 540, 541, 542, 543, 544, 545, 546, 38, 547, 248, 249, 250, 42, 251, 252, 253, 254, 255, 256, 257, 258, 548, 420, 421, 422, 549, 550, 551, 552, 568, 616, 617, 618, 619, 620, 621, 622, 623, 624, 625, 626, 641, 642, 643, 644, 645, 646, 647, 648, 637, 638, 639, 640, 627, 628, 629, 630, 631, 632, 633, 634, 635, 636, 649, 650, 651, 652, 653, 654, 655, 656, 657, 658] (by decide +kernel) (by decide +kernel)) (goodIn_sub (fun _ h => List.mem_cons_of_mem _ (List.mem_append_right _ h)) (by decide +kernel))) (goodIn_sub (fun _ h => List.mem_cons_of_mem _ (List.mem_append_left _ (List.mem_append_left _ (List.mem_append_right _ h)))) (by decide +kernel))
set_option maxRecDepth 20000 in
theorem ggL_refused_L_burnsFor : GoodIn wsL_refused wsL_burnsFor := goodIn_ca (goodIn_r _ [611, 9, 612, 613, 614, 13, 615, 15, 16, 17, 65, 333, 567, 18, 19, 20, 569, 81, 82, 24, 83, 36, 34, 26, 39, 28, 41, 43, 84, 85, 86, 87, 88, 89, 90, 91, 92, 93, 94, 95, 96, 97, 98, 99, 100, 101, 102, 103, 104, 105, 48, 106, 50, 55, 57, 56, 107, 108, 109, 110, 111, 112, 113, 114, 115, 116, 117, 118, 119, 120, 121, 122, 123, 124, 125, 126, 127, 128, 129, 130, 131, 132, 133, 134, 135, 136, 137, 138, 139, 140, 141, 142, 143, 144, 145, 146, 147, 148, 149, 150, 476, 477, 478, 479, 40, 480, 481, 482, 483, 484, 485, 486, 487, 488, 489, 490, 491, 492, 493, 494, 27, 236, 31, 495, 496, 497, 498, 224, 225, 226, 499, 335, 336, 337, 338, 440, 389, 390, 391, 500, 501, 502, 503, 445, 446, 447, 448, 45, 46, 47, 49, 504, 505, 506, 507, 508, 509, 510, 511, 512, 513, 514, 515, 190, 51, 52, 53, 54, 516, 517, 518, 519, 520, 521, 522, 523, 524, 525, 526, 527, 221, 222, 223, 238, 239, 240, 241, 233, 232, 231, 33, 242, 243, 244, 245, 528, 529, 530, 531, 532, 533, 534, 535, 536, 35, 193, 194, 195, 196, 197, 198, 199, 200, 29, 201, 202, 203, 204, 205, 206, 207, 208, 209, 210, 211, 212, 213, 214, 215, 216, 217, 218, 219, 537, 538, 539, 540, 541, 542, 543, 544, 545, 546, 38, 547, 248, 249, 250, 42, 251, 252, 253, 254, 255, 256, 257, 258, 259, 260, 261, 548, 420, 421, 422, 549, 550, 551, 552, 616, 617, 618, 619, 620, 621, 622, 623, 624, 625, 626, 627, 628, 629, 630, 631, 632, 637, 638, 639, 640, 641, 642, 643, 644, 645, 646, 647, 648, 633, 634, 635, 636, 649, 650, 651, 652, 653, 654, 655, 656, 657, 658] (by decide +kernel) (by decide +kernel)) (goodIn_sub (fun _ h => List.mem_cons_of_mem _ (List.mem_append_left _ (List.mem_append_left _ (List.mem_append_right _ h)))) (by decide +kernel))
set_option maxRecDepth 20000 in
theorem gL_refused_L_print : GoodIn wsL_refused (va_wsS RL 117 yL_print wsL_print) := goodIn_app (goodIn_of _ (by decide +kernel)) ggL_refused_L_print
set_option maxRecDepth 20000 in
theorem gL_refused_L_info : GoodIn wsL_refused (va_wsS RL 103 yL_info wsL_info) := goodIn_app (goodIn_of _ (by decide +kernel)) ggL_refused_L_info
set_option maxRecDepth 20000 in
theorem gL_refused_L_begin : GoodIn wsL_refused (va_wsS RL 121 yL_begin wsL_begin) := goodIn_app (goodIn_of _ (by decide +kernel)) ggL_refused_L_begin
set_option maxRecDepth 20000 in
theorem gL_refused_L_setDoor : GoodIn wsL_refused (va_wsS RL 123 yL_setDoor wsL_setDoor) := goodIn_app (goodIn_of _ (by decide +kernel)) ggL_refused_L_setDoor
set_option maxRecDepth 20000 in
theorem gL_refused_L_isOpen : GoodIn wsL_refused (va_wsS RL 126 yL_isOpen wsL_isOpen) := goodIn_app (goodIn_of _ (by decide +kernel)) ggL_refused_L_isOpen
set_option maxRecDepth 20000 in
theorem gL_refused_L_addFuel : GoodIn wsL_refused (va_wsS RL 129 yL_addFuel wsL_addFuel) := goodIn_app (goodIn_of _ (by decide +kernel)) ggL_refused_L_addFuel
set_option maxRecDepth 20000 in
theorem gL_refused_L_setTarget : GoodIn wsL_refused (va_wsS RL 108 yL_setTarget wsL_setTarget) := goodIn_app (goodIn_of _ (by decide +kernel)) ggL_refused_L_setTarget
set_option maxRecDepth 20000 in
theorem gL_refused_L_set : GoodIn wsL_refused (va_wsS RL 131 yL_set wsL_set) := goodIn_app (goodIn_of _ (by decide +kernel)) ggL_refused_L_set
set_option maxRecDepth 20000 in
theorem gL_refused_L_setSmoke : GoodIn wsL_refused (va_wsS RL 133 yL_setSmoke wsL_setSmoke) := goodIn_app (goodIn_of _ (by decide +kernel)) ggL_refused_L_setSmoke
set_option maxRecDepth 20000 in
theorem gL_refused_L_room : GoodIn wsL_refused (va_wsS RL 136 yL_room wsL_room) := goodIn_app (goodIn_of _ (by decide +kernel)) ggL_refused_L_room
set_option maxRecDepth 20000 in
theorem gL_refused_L_addSensor : GoodIn wsL_refused (va_wsS RL 138 yL_addSensor wsL_addSensor) := goodIn_app (goodIn_of _ (by decide +kernel)) ggL_refused_L_addSensor
set_option maxRecDepth 20000 in
theorem gL_refused_L_setFault : GoodIn wsL_refused (va_wsS RL 141 yL_setFault wsL_setFault) := goodIn_app (goodIn_of _ (by decide +kernel)) ggL_refused_L_setFault
set_option maxRecDepth 20000 in
theorem gL_refused_L_sensor : GoodIn wsL_refused (va_wsS RL 143 yL_sensor wsL_sensor) := goodIn_app (goodIn_of _ (by decide +kernel)) ggL_refused_L_sensor
set_option maxRecDepth 20000 in
theorem gL_refused_L_addRule : GoodIn wsL_refused (va_wsS RL 145 yL_addRule wsL_addRule) := goodIn_app (goodIn_of _ (by decide +kernel)) ggL_refused_L_addRule
set_option maxRecDepth 20000 in
theorem gL_refused_L_removeRule : GoodIn wsL_refused (va_wsS RL 148 yL_removeRule wsL_removeRule) := goodIn_app (goodIn_of _ (by decide +kernel)) ggL_refused_L_removeRule
set_option maxRecDepth 20000 in
theorem gL_refused_L_addEvent : GoodIn wsL_refused (va_wsS RL 150 yL_addEvent wsL_addEvent) := goodIn_app (goodIn_of _ (by decide +kernel)) ggL_refused_L_addEvent
set_option maxRecDepth 20000 in
theorem gL_refused_L_event : GoodIn wsL_refused (va_wsS RL 152 yL_event wsL_event) := goodIn_app (goodIn_of _ (by decide +kernel)) ggL_refused_L_event
set_option maxRecDepth 20000 in
theorem gL_refused_L_mute : GoodIn wsL_refused (va_wsS RL 154 yL_mute wsL_mute) := goodIn_app (goodIn_of _ (by decide +kernel)) ggL_refused_L_mute
set_option maxRecDepth 20000 in
theorem gL_refused_L_pass : GoodIn wsL_refused (va_wsS RL 156 yL_pass wsL_pass) := goodIn_app (goodIn_of _ (by decide +kernel)) ggL_refused_L_pass
set_option maxRecDepth 20000 in
theorem gL_refused_L_told : GoodIn wsL_refused (va_wsS RL 158 yL_told wsL_told) := goodIn_app (goodIn_of _ (by decide +kernel)) ggL_refused_L_told
set_option maxRecDepth 20000 in
theorem gL_refused_L_alarmIn : GoodIn wsL_refused (va_wsS RL 160 yL_alarmIn wsL_alarmIn) := goodIn_app (goodIn_of _ (by decide +kernel)) ggL_refused_L_alarmIn
set_option maxRecDepth 20000 in
theorem gL_refused_L_smokeAfter : GoodIn wsL_refused (va_wsS RL 162 yL_smokeAfter wsL_smokeAfter) := goodIn_app (goodIn_of _ (by decide +kernel)) ggL_refused_L_smokeAfter
set_option maxRecDepth 20000 in
theorem gL_refused_L_peak : GoodIn wsL_refused (va_wsS RL 164 yL_peak wsL_peak) := goodIn_app (goodIn_of _ (by decide +kernel)) ggL_refused_L_peak
set_option maxRecDepth 20000 in
theorem gL_refused_L_bestOpening : GoodIn wsL_refused (va_wsS RL 167 yL_bestOpening wsL_bestOpening) := goodIn_app (goodIn_of _ (by decide +kernel)) ggL_refused_L_bestOpening
set_option maxRecDepth 20000 in
theorem gL_refused_L_neededSensors : GoodIn wsL_refused (va_wsS RL 169 yL_neededSensors wsL_neededSensors) := goodIn_app (goodIn_of _ (by decide +kernel)) ggL_refused_L_neededSensors
set_option maxRecDepth 20000 in
theorem gL_refused_L_burnsFor : GoodIn wsL_refused (va_wsS RL 171 yL_burnsFor wsL_burnsFor) := goodIn_app (goodIn_of _ (by decide +kernel)) ggL_refused_L_burnsFor
