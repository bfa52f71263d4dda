/-! the methods, the entries of their classes' tables -/
theorem tb_in {w : Cond} (h : w ∈ tables_1) : w ∈ lw_tbl := List.mem_append_right _ h
theorem in_t1 {w : Cond} (h : w ∈ tables_1_1) : w ∈ lw_tbl := tb_in (List.mem_append_left _ h)
theorem in_t2 {w : Cond} (h : w ∈ tables_1_2) : w ∈ lw_tbl := tb_in (List.mem_append_right _ (List.mem_append_left _ h))
theorem in_t3 {w : Cond} (h : w ∈ tables_1_3) : w ∈ lw_tbl := tb_in (List.mem_append_right _ (List.mem_append_right _ (List.mem_append_left _ h)))
theorem in_t4 {w : Cond} (h : w ∈ tables_1_4) : w ∈ lw_tbl := tb_in (List.mem_append_right _ (List.mem_append_right _ (List.mem_append_right _ (List.mem_append_left _ h))))
theorem in_t5 {w : Cond} (h : w ∈ tables_1_5) : w ∈ lw_tbl := tb_in (List.mem_append_right _ (List.mem_append_right _ (List.mem_append_right _ (List.mem_append_right _ (List.mem_append_left _ h)))))
theorem in_t6 {w : Cond} (h : w ∈ tables_1_6) : w ∈ lw_tbl := tb_in (List.mem_append_right _ (List.mem_append_right _ (List.mem_append_right _ (List.mem_append_right _ (List.mem_append_right _ (List.mem_append_left _ h))))))
theorem in_t7 {w : Cond} (h : w ∈ tables_1_7) : w ∈ lw_tbl := tb_in (List.mem_append_right _ (List.mem_append_right _ (List.mem_append_right _ (List.mem_append_right _ (List.mem_append_right _ (List.mem_append_right _ (List.mem_append_left _ h)))))))
theorem in_t8 {w : Cond} (h : w ∈ tables_1_8) : w ∈ lw_tbl := tb_in (List.mem_append_right _ (List.mem_append_right _ (List.mem_append_right _ (List.mem_append_right _ (List.mem_append_right _ (List.mem_append_right _ (List.mem_append_right _ (List.mem_append_left _ h))))))))
theorem in_t9 {w : Cond} (h : w ∈ tables_1_9) : w ∈ lw_tbl := tb_in (List.mem_append_right _ (List.mem_append_right _ (List.mem_append_right _ (List.mem_append_right _ (List.mem_append_right _ (List.mem_append_right _ (List.mem_append_right _ (List.mem_append_right _ (List.mem_append_left _ h)))))))))
theorem in_t10 {w : Cond} (h : w ∈ tables_1_10) : w ∈ lw_tbl := tb_in (List.mem_append_right _ (List.mem_append_right _ (List.mem_append_right _ (List.mem_append_right _ (List.mem_append_right _ (List.mem_append_right _ (List.mem_append_right _ (List.mem_append_right _ (List.mem_append_right _ (h))))))))))
theorem in_p1 {y : MethodName} {n i : Nat} (h9 : lw_privs_1[i]? = some (y, n)) : Cond.selects y.cls y y ∈ lw_tbl := List.mem_append_left _ (List.mem_map.mpr ⟨(y, n), (by have h := List.mem_of_getElem? h9; exact List.mem_append_left _ h), rfl⟩)
theorem in_p2 {y : MethodName} {n i : Nat} (h9 : lw_privs_2[i]? = some (y, n)) : Cond.selects y.cls y y ∈ lw_tbl := List.mem_append_left _ (List.mem_map.mpr ⟨(y, n), (by have h := List.mem_of_getElem? h9; exact List.mem_append_right _ (List.mem_append_left _ h)), rfl⟩)
theorem in_p3 {y : MethodName} {n i : Nat} (h9 : lw_privs_3[i]? = some (y, n)) : Cond.selects y.cls y y ∈ lw_tbl := List.mem_append_left _ (List.mem_map.mpr ⟨(y, n), (by have h := List.mem_of_getElem? h9; exact List.mem_append_right _ (List.mem_append_right _ (List.mem_append_left _ h))), rfl⟩)
theorem in_p4 {y : MethodName} {n i : Nat} (h9 : lw_privs_4[i]? = some (y, n)) : Cond.selects y.cls y y ∈ lw_tbl := List.mem_append_left _ (List.mem_map.mpr ⟨(y, n), (by have h := List.mem_of_getElem? h9; exact List.mem_append_right _ (List.mem_append_right _ (List.mem_append_right _ (List.mem_append_left _ h)))), rfl⟩)
theorem in_p5 {y : MethodName} {n i : Nat} (h9 : lw_privs_5[i]? = some (y, n)) : Cond.selects y.cls y y ∈ lw_tbl := List.mem_append_left _ (List.mem_map.mpr ⟨(y, n), (by have h := List.mem_of_getElem? h9; exact List.mem_append_right _ (List.mem_append_right _ (List.mem_append_right _ (List.mem_append_right _ (List.mem_append_left _ h))))), rfl⟩)
theorem in_p6 {y : MethodName} {n i : Nat} (h9 : lw_privs_6[i]? = some (y, n)) : Cond.selects y.cls y y ∈ lw_tbl := List.mem_append_left _ (List.mem_map.mpr ⟨(y, n), (by have h := List.mem_of_getElem? h9; exact List.mem_append_right _ (List.mem_append_right _ (List.mem_append_right _ (List.mem_append_right _ (List.mem_append_right _ (List.mem_append_left _ h)))))), rfl⟩)
theorem in_p7 {y : MethodName} {n i : Nat} (h9 : lw_privs_7[i]? = some (y, n)) : Cond.selects y.cls y y ∈ lw_tbl := List.mem_append_left _ (List.mem_map.mpr ⟨(y, n), (by have h := List.mem_of_getElem? h9; exact List.mem_append_right _ (List.mem_append_right _ (List.mem_append_right _ (List.mem_append_right _ (List.mem_append_right _ (List.mem_append_right _ (List.mem_append_left _ h))))))), rfl⟩)
theorem in_p8 {y : MethodName} {n i : Nat} (h9 : lw_privs_8[i]? = some (y, n)) : Cond.selects y.cls y y ∈ lw_tbl := List.mem_append_left _ (List.mem_map.mpr ⟨(y, n), (by have h := List.mem_of_getElem? h9; exact List.mem_append_right _ (List.mem_append_right _ (List.mem_append_right _ (List.mem_append_right _ (List.mem_append_right _ (List.mem_append_right _ (List.mem_append_right _ (List.mem_append_left _ h)))))))), rfl⟩)
theorem in_p9 {y : MethodName} {n i : Nat} (h9 : lw_privs_9[i]? = some (y, n)) : Cond.selects y.cls y y ∈ lw_tbl := List.mem_append_left _ (List.mem_map.mpr ⟨(y, n), (by have h := List.mem_of_getElem? h9; exact List.mem_append_right _ (List.mem_append_right _ (List.mem_append_right _ (List.mem_append_right _ (List.mem_append_right _ (List.mem_append_right _ (List.mem_append_right _ (List.mem_append_right _ (h))))))))), rfl⟩)
set_option maxRecDepth 10000 in
theorem ini_X0 : Cond.initialized RX0 ∈ tbw := in_tb (in_t1 (List.mem_of_getElem? (i := 12) rfl)) rfl
set_option maxRecDepth 10000 in
theorem ini_X1 : Cond.initialized RX1 ∈ tbw := in_tb (in_t1 (List.mem_of_getElem? (i := 5) rfl)) rfl
set_option maxRecDepth 10000 in
theorem ini_X2 : Cond.initialized RX2 ∈ tbw := in_tb (in_t1 (List.mem_of_getElem? (i := 10) rfl)) rfl
set_option maxRecDepth 10000 in
theorem ini_X3 : Cond.initialized RX3 ∈ tbw := in_tb (in_t1 (List.mem_of_getElem? (i := 13) rfl)) rfl
set_option maxRecDepth 10000 in
theorem ini_X4 : Cond.initialized RX4 ∈ tbw := in_tb (in_t1 (List.mem_of_getElem? (i := 9) rfl)) rfl
set_option maxRecDepth 10000 in
theorem ini_X5 : Cond.initialized RX5 ∈ tbw := in_tb (in_t1 (List.mem_of_getElem? (i := 7) rfl)) rfl
set_option maxRecDepth 10000 in
theorem ini_X6 : Cond.initialized RX6 ∈ tbw := in_tb (in_t1 (List.mem_of_getElem? (i := 4) rfl)) rfl
set_option maxRecDepth 10000 in
theorem ini_X7 : Cond.initialized RX7 ∈ tbw := in_tb (in_t1 (List.mem_of_getElem? (i := 11) rfl)) rfl
set_option maxRecDepth 10000 in
theorem ini_X8 : Cond.initialized RX8 ∈ tbw := in_tb (in_t1 (List.mem_of_getElem? (i := 2) rfl)) rfl
set_option maxRecDepth 10000 in
theorem ini_X9 : Cond.initialized RX9 ∈ tbw := in_tb (in_t1 (List.mem_of_getElem? (i := 3) rfl)) rfl
set_option maxRecDepth 10000 in
theorem ini_X10 : Cond.initialized RX10 ∈ tbw := in_tb (in_t1 (List.mem_of_getElem? (i := 8) rfl)) rfl
set_option maxRecDepth 10000 in
theorem ini_X11 : Cond.initialized RX11 ∈ tbw := in_tb (in_t1 (List.mem_of_getElem? (i := 1) rfl)) rfl
set_option maxRecDepth 10000 in
theorem ini_X12 : Cond.initialized RX12 ∈ tbw := in_tb (in_t1 (List.mem_of_getElem? (i := 14) rfl)) rfl
set_option maxRecDepth 10000 in
theorem ini_J6 : Cond.initialized RJ6 ∈ tbw := in_tb (in_t1 (List.mem_of_getElem? (i := 27) rfl)) rfl
set_option maxRecDepth 10000 in
theorem ini_J13 : Cond.initialized RJ13 ∈ tbw := in_tb (in_t1 (List.mem_of_getElem? (i := 26) rfl)) rfl
set_option maxRecDepth 10000 in
theorem ini_J9 : Cond.initialized RJ9 ∈ tbw := in_tb (in_t1 (List.mem_of_getElem? (i := 31) rfl)) rfl
set_option maxRecDepth 10000 in
theorem ini_J0 : Cond.initialized RJ0 ∈ tbw := in_tb (in_t1 (List.mem_of_getElem? (i := 16) rfl)) rfl
set_option maxRecDepth 10000 in
theorem ini_J1 : Cond.initialized RJ1 ∈ tbw := in_tb (in_t1 (List.mem_of_getElem? (i := 17) rfl)) rfl
set_option maxRecDepth 10000 in
theorem ini_J2 : Cond.initialized RJ2 ∈ tbw := in_tb (in_t1 (List.mem_of_getElem? (i := 19) rfl)) rfl
set_option maxRecDepth 10000 in
theorem ini_J7 : Cond.initialized RJ7 ∈ tbw := in_tb (in_t1 (List.mem_of_getElem? (i := 6) rfl)) rfl
set_option maxRecDepth 10000 in
theorem ini_J3 : Cond.initialized RJ3 ∈ tbw := in_tb (in_t1 (List.mem_of_getElem? (i := 18) rfl)) rfl
set_option maxRecDepth 10000 in
theorem ini_L : Cond.initialized RL ∈ tbw := in_tb (in_t1 (List.mem_of_getElem? (i := 0) rfl)) rfl
def M_X0_init : MI := (yX0_init, cX0_init, 1, none, [])
set_option maxRecDepth 10000 in
theorem mk_X0_init : MOk M_X0_init 0 := ⟨in_tb (in_t2 (List.mem_of_getElem? (i := 138) rfl)) rfl, rfl, ini_X0, ⟨by decide, by decide, by decide +kernel⟩, by decide⟩
set_option maxRecDepth 10000 in
theorem im_X0_init : Cond.instanceMethod yX0_init ∈ tbw := in_tb (in_t2 (List.mem_of_getElem? (i := 137) rfl)) rfl
def M_X0_survey : MI := (yX0_survey, cX0_survey, 11, none, [])
set_option maxRecDepth 10000 in
theorem mk_X0_survey : MOk M_X0_survey 2 := ⟨in_tb (in_t6 (List.mem_of_getElem? (i := 91) rfl)) rfl, rfl, ini_X0, ⟨by decide, by decide, by decide +kernel⟩, by decide⟩
set_option maxRecDepth 10000 in
theorem im_X0_survey : Cond.instanceMethod yX0_survey ∈ tbw := in_tb (in_t6 (List.mem_of_getElem? (i := 89) rfl)) rfl
set_option maxRecDepth 10000 in
theorem se_X0_survey : Cond.selects yX0_survey.cls yX0_survey yX0_survey ∈ tbw := in_tb (in_t6 (List.mem_of_getElem? (i := 90) rfl)) rfl
def M_X0_endBegins : MI := (yX0_endBegins, cX0_endBegins, 6, some (.boolean), [])
set_option maxRecDepth 10000 in
theorem mk_X0_endBegins : MOk M_X0_endBegins 4 := ⟨in_tb (in_t6 (List.mem_of_getElem? (i := 95) rfl)) rfl, rfl, ini_X0, ⟨by decide, by decide, by decide +kernel⟩, by decide⟩
set_option maxRecDepth 10000 in
theorem sm_X0_endBegins : Cond.static yX0_endBegins ∈ tbw := in_tb (in_t6 (List.mem_of_getElem? (i := 94) rfl)) rfl
def M_X0_meet : MI := (yX0_meet, cX0_meet, 11, none, [])
set_option maxRecDepth 10000 in
theorem mk_X0_meet : MOk M_X0_meet 5 := ⟨in_tb (in_t6 (List.mem_of_getElem? (i := 101) rfl)) rfl, rfl, ini_X0, ⟨by decide, by decide, by decide +kernel⟩, by decide⟩
set_option maxRecDepth 10000 in
theorem im_X0_meet : Cond.instanceMethod yX0_meet ∈ tbw := in_tb (in_t6 (List.mem_of_getElem? (i := 100) rfl)) rfl
set_option maxRecDepth 10000 in
theorem se_X0_meet : Cond.selects yX0_meet.cls yX0_meet yX0_meet ∈ tbw := in_tb (in_p2 (i := 15) rfl) rfl
def M_X1_init : MI := (yX1_init, cX1_init, 1, none, [])
set_option maxRecDepth 10000 in
theorem mk_X1_init : MOk M_X1_init 0 := ⟨in_tb (in_t1 (List.mem_of_getElem? (i := 126) rfl)) rfl, rfl, ini_X1, ⟨by decide, by decide, by decide +kernel⟩, by decide⟩
set_option maxRecDepth 10000 in
theorem im_X1_init : Cond.instanceMethod yX1_init ∈ tbw := in_tb (in_t1 (List.mem_of_getElem? (i := 125) rfl)) rfl
def M_X1_copyFrom : MI := (yX1_copyFrom, cX1_copyFrom, 2, none, [])
set_option maxRecDepth 10000 in
theorem mk_X1_copyFrom : MOk M_X1_copyFrom 1 := ⟨in_tb (in_t3 (List.mem_of_getElem? (i := 147) rfl)) rfl, rfl, ini_X1, ⟨by decide, by decide, by decide +kernel⟩, by decide⟩
set_option maxRecDepth 10000 in
theorem im_X1_copyFrom : Cond.instanceMethod yX1_copyFrom ∈ tbw := in_tb (in_t3 (List.mem_of_getElem? (i := 145) rfl)) rfl
set_option maxRecDepth 10000 in
theorem se_X1_copyFrom : Cond.selects yX1_copyFrom.cls yX1_copyFrom yX1_copyFrom ∈ tbw := in_tb (in_t3 (List.mem_of_getElem? (i := 146) rfl)) rfl
def M_X1_takeMakers : MI := (yX1_takeMakers, cX1_takeMakers, 3, none, [])
set_option maxRecDepth 10000 in
theorem mk_X1_takeMakers : MOk M_X1_takeMakers 2 := ⟨in_tb (in_t3 (List.mem_of_getElem? (i := 151) rfl)) rfl, rfl, ini_X1, ⟨by decide, by decide, by decide +kernel⟩, by decide⟩
set_option maxRecDepth 10000 in
theorem im_X1_takeMakers : Cond.instanceMethod yX1_takeMakers ∈ tbw := in_tb (in_t3 (List.mem_of_getElem? (i := 149) rfl)) rfl
set_option maxRecDepth 10000 in
theorem se_X1_takeMakers : Cond.selects yX1_takeMakers.cls yX1_takeMakers yX1_takeMakers ∈ tbw := in_tb (in_t3 (List.mem_of_getElem? (i := 150) rfl)) rfl
def M_X1_tell : MI := (yX1_tell, cX1_tell, 3, none, [])
set_option maxRecDepth 10000 in
theorem mk_X1_tell : MOk M_X1_tell 1 := ⟨in_tb (in_t4 (List.mem_of_getElem? (i := 64) rfl)) rfl, rfl, ini_X1, ⟨by decide, by decide, by decide +kernel⟩, by decide⟩
set_option maxRecDepth 10000 in
theorem im_X1_tell : Cond.instanceMethod yX1_tell ∈ tbw := in_tb (in_t4 (List.mem_of_getElem? (i := 62) rfl)) rfl
set_option maxRecDepth 10000 in
theorem se_X1_tell : Cond.selects yX1_tell.cls yX1_tell yX1_tell ∈ tbw := in_tb (in_t4 (List.mem_of_getElem? (i := 63) rfl)) rfl
def M_X2_init : MI := (yX2_init, cX2_init, 1, none, [])
set_option maxRecDepth 10000 in
theorem mk_X2_init : MOk M_X2_init 0 := ⟨in_tb (in_t2 (List.mem_of_getElem? (i := 79) rfl)) rfl, rfl, ini_X2, ⟨by decide, by decide, by decide +kernel⟩, by decide⟩
set_option maxRecDepth 10000 in
theorem im_X2_init : Cond.instanceMethod yX2_init ∈ tbw := in_tb (in_t2 (List.mem_of_getElem? (i := 78) rfl)) rfl
def M_X2_play : MI := (yX2_play, cX2_play, 6, none, [])
set_option maxRecDepth 10000 in
theorem mk_X2_play : MOk M_X2_play 3 := ⟨in_tb (in_t7 (List.mem_of_getElem? (i := 36) rfl)) rfl, rfl, ini_X2, ⟨by decide, by decide, by decide +kernel⟩, by decide⟩
set_option maxRecDepth 10000 in
theorem im_X2_play : Cond.instanceMethod yX2_play ∈ tbw := in_tb (in_t7 (List.mem_of_getElem? (i := 34) rfl)) rfl
set_option maxRecDepth 10000 in
theorem se_X2_play : Cond.selects yX2_play.cls yX2_play yX2_play ∈ tbw := in_tb (in_t7 (List.mem_of_getElem? (i := 35) rfl)) rfl
def M_X2_weigh : MI := (yX2_weigh, cX2_weigh, 8, none, [])
set_option maxRecDepth 10000 in
theorem mk_X2_weigh : MOk M_X2_weigh 3 := ⟨in_tb (in_t7 (List.mem_of_getElem? (i := 41) rfl)) rfl, rfl, ini_X2, ⟨by decide, by decide, by decide +kernel⟩, by decide⟩
set_option maxRecDepth 10000 in
theorem im_X2_weigh : Cond.instanceMethod yX2_weigh ∈ tbw := in_tb (in_t7 (List.mem_of_getElem? (i := 40) rfl)) rfl
set_option maxRecDepth 10000 in
theorem se_X2_weigh : Cond.selects yX2_weigh.cls yX2_weigh yX2_weigh ∈ tbw := in_tb (in_p3 (i := 10) rfl) rfl
def M_X3_init : MI := (yX3_init, cX3_init, 1, none, [])
set_option maxRecDepth 10000 in
theorem mk_X3_init : MOk M_X3_init 0 := ⟨in_tb (in_t2 (List.mem_of_getElem? (i := 168) rfl)) rfl, rfl, ini_X3, ⟨by decide, by decide, by decide +kernel⟩, by decide⟩
set_option maxRecDepth 10000 in
theorem im_X3_init : Cond.instanceMethod yX3_init ∈ tbw := in_tb (in_t2 (List.mem_of_getElem? (i := 167) rfl)) rfl
def M_X3_fewestTelling : MI := (yX3_fewestTelling, cX3_fewestTelling, 5, some (.int), [])
set_option maxRecDepth 10000 in
theorem mk_X3_fewestTelling : MOk M_X3_fewestTelling 1 := ⟨in_tb (in_t3 (List.mem_of_getElem? (i := 107) rfl)) rfl, rfl, ini_X3, ⟨by decide, by decide, by decide +kernel⟩, by decide⟩
set_option maxRecDepth 10000 in
theorem im_X3_fewestTelling : Cond.instanceMethod yX3_fewestTelling ∈ tbw := in_tb (in_t3 (List.mem_of_getElem? (i := 105) rfl)) rfl
set_option maxRecDepth 10000 in
theorem se_X3_fewestTelling : Cond.selects yX3_fewestTelling.cls yX3_fewestTelling yX3_fewestTelling ∈ tbw := in_tb (in_t3 (List.mem_of_getElem? (i := 106) rfl)) rfl
def M_X3_explainsAll : MI := (yX3_explainsAll, cX3_explainsAll, 4, some (.boolean), [])
set_option maxRecDepth 10000 in
theorem mk_X3_explainsAll : MOk M_X3_explainsAll 2 := ⟨in_tb (in_t3 (List.mem_of_getElem? (i := 124) rfl)) rfl, rfl, ini_X3, ⟨by decide, by decide, by decide +kernel⟩, by decide⟩
set_option maxRecDepth 10000 in
theorem im_X3_explainsAll : Cond.instanceMethod yX3_explainsAll ∈ tbw := in_tb (in_t3 (List.mem_of_getElem? (i := 123) rfl)) rfl
set_option maxRecDepth 10000 in
theorem se_X3_explainsAll : Cond.selects yX3_explainsAll.cls yX3_explainsAll yX3_explainsAll ∈ tbw := in_tb (in_p1 (i := 3) rfl) rfl
def M_X3_survey : MI := (yX3_survey, cX3_survey, 5, none, [])
set_option maxRecDepth 10000 in
theorem mk_X3_survey : MOk M_X3_survey 1 := ⟨in_tb (in_t7 (List.mem_of_getElem? (i := 5) rfl)) rfl, rfl, ini_X3, ⟨by decide, by decide, by decide +kernel⟩, by decide⟩
set_option maxRecDepth 10000 in
theorem im_X3_survey : Cond.instanceMethod yX3_survey ∈ tbw := in_tb (in_t7 (List.mem_of_getElem? (i := 3) rfl)) rfl
set_option maxRecDepth 10000 in
theorem se_X3_survey : Cond.selects yX3_survey.cls yX3_survey yX3_survey ∈ tbw := in_tb (in_t7 (List.mem_of_getElem? (i := 4) rfl)) rfl
def M_X3_surveySizes : MI := (yX3_surveySizes, cX3_surveySizes, 16, none, [])
set_option maxRecDepth 10000 in
theorem mk_X3_surveySizes : MOk M_X3_surveySizes 3 := ⟨in_tb (in_t7 (List.mem_of_getElem? (i := 11) rfl)) rfl, rfl, ini_X3, ⟨by decide, by decide, by decide +kernel⟩, by decide⟩
set_option maxRecDepth 10000 in
theorem im_X3_surveySizes : Cond.instanceMethod yX3_surveySizes ∈ tbw := in_tb (in_t7 (List.mem_of_getElem? (i := 10) rfl)) rfl
set_option maxRecDepth 10000 in
theorem se_X3_surveySizes : Cond.selects yX3_surveySizes.cls yX3_surveySizes yX3_surveySizes ∈ tbw := in_tb (in_p3 (i := 8) rfl) rfl
def M_X3_cameEarlier : MI := (yX3_cameEarlier, cX3_cameEarlier, 13, some (.boolean), [])
set_option maxRecDepth 10000 in
theorem mk_X3_cameEarlier : MOk M_X3_cameEarlier 5 := ⟨in_tb (in_t7 (List.mem_of_getElem? (i := 16) rfl)) rfl, rfl, ini_X3, ⟨by decide, by decide, by decide +kernel⟩, by decide⟩
set_option maxRecDepth 10000 in
theorem sm_X3_cameEarlier : Cond.static yX3_cameEarlier ∈ tbw := in_tb (in_t7 (List.mem_of_getElem? (i := 15) rfl)) rfl
def M_X3_tellsAll : MI := (yX3_tellsAll, cX3_tellsAll, 6, some (.boolean), [])
set_option maxRecDepth 10000 in
theorem mk_X3_tellsAll : MOk M_X3_tellsAll 3 := ⟨in_tb (in_t7 (List.mem_of_getElem? (i := 20) rfl)) rfl, rfl, ini_X3, ⟨by decide, by decide, by decide +kernel⟩, by decide⟩
set_option maxRecDepth 10000 in
theorem sm_X3_tellsAll : Cond.static yX3_tellsAll ∈ tbw := in_tb (in_t7 (List.mem_of_getElem? (i := 19) rfl)) rfl
def M_X4_init : MI := (yX4_init, cX4_init, 1, none, [])
set_option maxRecDepth 10000 in
theorem mk_X4_init : MOk M_X4_init 0 := ⟨in_tb (in_t2 (List.mem_of_getElem? (i := 48) rfl)) rfl, rfl, ini_X4, ⟨by decide, by decide, by decide +kernel⟩, by decide⟩
set_option maxRecDepth 10000 in
theorem im_X4_init : Cond.instanceMethod yX4_init ∈ tbw := in_tb (in_t2 (List.mem_of_getElem? (i := 47) rfl)) rfl
def M_X4_begin : MI := (yX4_begin, cX4_begin, 3, none, [])
set_option maxRecDepth 10000 in
theorem mk_X4_begin : MOk M_X4_begin 1 := ⟨in_tb (in_t5 (List.mem_of_getElem? (i := 226) rfl)) rfl, rfl, ini_X4, ⟨by decide, by decide, by decide +kernel⟩, by decide⟩
set_option maxRecDepth 10000 in
theorem im_X4_begin : Cond.instanceMethod yX4_begin ∈ tbw := in_tb (in_t5 (List.mem_of_getElem? (i := 224) rfl)) rfl
set_option maxRecDepth 10000 in
theorem se_X4_begin : Cond.selects yX4_begin.cls yX4_begin yX4_begin ∈ tbw := in_tb (in_t5 (List.mem_of_getElem? (i := 225) rfl)) rfl
def M_X4_indexOf : MI := (yX4_indexOf, cX4_indexOf, 3, some (.int), [])
set_option maxRecDepth 10000 in
theorem mk_X4_indexOf : MOk M_X4_indexOf 1 := ⟨in_tb (in_t6 (List.mem_of_getElem? (i := 4) rfl)) rfl, rfl, ini_X4, ⟨by decide, by decide, by decide +kernel⟩, by decide⟩
set_option maxRecDepth 10000 in
theorem im_X4_indexOf : Cond.instanceMethod yX4_indexOf ∈ tbw := in_tb (in_t6 (List.mem_of_getElem? (i := 2) rfl)) rfl
set_option maxRecDepth 10000 in
theorem se_X4_indexOf : Cond.selects yX4_indexOf.cls yX4_indexOf yX4_indexOf ∈ tbw := in_tb (in_t6 (List.mem_of_getElem? (i := 3) rfl)) rfl
def M_X4_slotOf : MI := (yX4_slotOf, cX4_slotOf, 6, some (.int), [])
set_option maxRecDepth 10000 in
theorem mk_X4_slotOf : MOk M_X4_slotOf 1 := ⟨in_tb (in_t5 (List.mem_of_getElem? (i := 235) rfl)) rfl, rfl, ini_X4, ⟨by decide, by decide, by decide +kernel⟩, by decide⟩
set_option maxRecDepth 10000 in
theorem im_X4_slotOf : Cond.instanceMethod yX4_slotOf ∈ tbw := in_tb (in_t5 (List.mem_of_getElem? (i := 234) rfl)) rfl
set_option maxRecDepth 10000 in
theorem se_X4_slotOf : Cond.selects yX4_slotOf.cls yX4_slotOf yX4_slotOf ∈ tbw := in_tb (in_p2 (i := 14) rfl) rfl
def M_X4_take : MI := (yX4_take, cX4_take, 5, some (.boolean), [])
set_option maxRecDepth 10000 in
theorem mk_X4_take : MOk M_X4_take 2 := ⟨in_tb (in_t5 (List.mem_of_getElem? (i := 231) rfl)) rfl, rfl, ini_X4, ⟨by decide, by decide, by decide +kernel⟩, by decide⟩
set_option maxRecDepth 10000 in
theorem im_X4_take : Cond.instanceMethod yX4_take ∈ tbw := in_tb (in_t5 (List.mem_of_getElem? (i := 229) rfl)) rfl
set_option maxRecDepth 10000 in
theorem se_X4_take : Cond.selects yX4_take.cls yX4_take yX4_take ∈ tbw := in_tb (in_t5 (List.mem_of_getElem? (i := 230) rfl)) rfl
def M_X4_spread : MI := (yX4_spread, cX4_spread, 6, some (.boolean), [])
set_option maxRecDepth 10000 in
theorem mk_X4_spread : MOk M_X4_spread 3 := ⟨in_tb (in_t6 (List.mem_of_getElem? (i := 23) rfl)) rfl, rfl, ini_X4, ⟨by decide, by decide, by decide +kernel⟩, by decide⟩
set_option maxRecDepth 10000 in
theorem im_X4_spread : Cond.instanceMethod yX4_spread ∈ tbw := in_tb (in_t6 (List.mem_of_getElem? (i := 21) rfl)) rfl
set_option maxRecDepth 10000 in
theorem se_X4_spread : Cond.selects yX4_spread.cls yX4_spread yX4_spread ∈ tbw := in_tb (in_t6 (List.mem_of_getElem? (i := 22) rfl)) rfl
def M_X4_goesOn : MI := (yX4_goesOn, cX4_goesOn, 1, some (.boolean), [])
set_option maxRecDepth 10000 in
theorem mk_X4_goesOn : MOk M_X4_goesOn 0 := ⟨in_tb (in_t6 (List.mem_of_getElem? (i := 28) rfl)) rfl, rfl, ini_X4, ⟨by decide, by decide, by decide +kernel⟩, by decide⟩
set_option maxRecDepth 10000 in
theorem im_X4_goesOn : Cond.instanceMethod yX4_goesOn ∈ tbw := in_tb (in_t6 (List.mem_of_getElem? (i := 26) rfl)) rfl
set_option maxRecDepth 10000 in
theorem se_X4_goesOn : Cond.selects yX4_goesOn.cls yX4_goesOn yX4_goesOn ∈ tbw := in_tb (in_t6 (List.mem_of_getElem? (i := 27) rfl)) rfl
def M_X4_spreadOnce : MI := (yX4_spreadOnce, cX4_spreadOnce, 6, some (.boolean), [])
set_option maxRecDepth 10000 in
theorem mk_X4_spreadOnce : MOk M_X4_spreadOnce 1 := ⟨in_tb (in_t6 (List.mem_of_getElem? (i := 32) rfl)) rfl, rfl, ini_X4, ⟨by decide, by decide, by decide +kernel⟩, by decide⟩
set_option maxRecDepth 10000 in
theorem im_X4_spreadOnce : Cond.instanceMethod yX4_spreadOnce ∈ tbw := in_tb (in_t6 (List.mem_of_getElem? (i := 30) rfl)) rfl
set_option maxRecDepth 10000 in
theorem se_X4_spreadOnce : Cond.selects yX4_spreadOnce.cls yX4_spreadOnce yX4_spreadOnce ∈ tbw := in_tb (in_t6 (List.mem_of_getElem? (i := 31) rfl)) rfl
def M_X4_mostBeasts : MI := (yX4_mostBeasts, cX4_mostBeasts, 3, some (.int), [])
set_option maxRecDepth 10000 in
theorem mk_X4_mostBeasts : MOk M_X4_mostBeasts 0 := ⟨in_tb (in_t6 (List.mem_of_getElem? (i := 43) rfl)) rfl, rfl, ini_X4, ⟨by decide, by decide, by decide +kernel⟩, by decide⟩
set_option maxRecDepth 10000 in
theorem im_X4_mostBeasts : Cond.instanceMethod yX4_mostBeasts ∈ tbw := in_tb (in_t6 (List.mem_of_getElem? (i := 41) rfl)) rfl
set_option maxRecDepth 10000 in
theorem se_X4_mostBeasts : Cond.selects yX4_mostBeasts.cls yX4_mostBeasts yX4_mostBeasts ∈ tbw := in_tb (in_t6 (List.mem_of_getElem? (i := 42) rfl)) rfl
def M_X4_countSettled : MI := (yX4_countSettled, cX4_countSettled, 4, some (.int), [])
set_option maxRecDepth 10000 in
theorem mk_X4_countSettled : MOk M_X4_countSettled 1 := ⟨in_tb (in_t6 (List.mem_of_getElem? (i := 51) rfl)) rfl, rfl, ini_X4, ⟨by decide, by decide, by decide +kernel⟩, by decide⟩
set_option maxRecDepth 10000 in
theorem im_X4_countSettled : Cond.instanceMethod yX4_countSettled ∈ tbw := in_tb (in_t6 (List.mem_of_getElem? (i := 49) rfl)) rfl
set_option maxRecDepth 10000 in
theorem se_X4_countSettled : Cond.selects yX4_countSettled.cls yX4_countSettled yX4_countSettled ∈ tbw := in_tb (in_t6 (List.mem_of_getElem? (i := 50) rfl)) rfl
def M_X4_leastSettled : MI := (yX4_leastSettled, cX4_leastSettled, 5, some (.long), [])
set_option maxRecDepth 10000 in
theorem mk_X4_leastSettled : MOk M_X4_leastSettled 1 := ⟨in_tb (in_t6 (List.mem_of_getElem? (i := 59) rfl)) rfl, rfl, ini_X4, ⟨by decide, by decide, by decide +kernel⟩, by decide⟩
set_option maxRecDepth 10000 in
theorem im_X4_leastSettled : Cond.instanceMethod yX4_leastSettled ∈ tbw := in_tb (in_t6 (List.mem_of_getElem? (i := 57) rfl)) rfl
set_option maxRecDepth 10000 in
theorem se_X4_leastSettled : Cond.selects yX4_leastSettled.cls yX4_leastSettled yX4_leastSettled ∈ tbw := in_tb (in_t6 (List.mem_of_getElem? (i := 58) rfl)) rfl
def M_X5_init : MI := (yX5_init, cX5_init, 1, none, [])
set_option maxRecDepth 10000 in
theorem mk_X5_init : MOk M_X5_init 0 := ⟨in_tb (in_t1 (List.mem_of_getElem? (i := 212) rfl)) rfl, rfl, ini_X5, ⟨by decide, by decide, by decide +kernel⟩, by decide⟩
set_option maxRecDepth 10000 in
theorem im_X5_init : Cond.instanceMethod yX5_init ∈ tbw := in_tb (in_t1 (List.mem_of_getElem? (i := 211) rfl)) rfl
def M_X5_copyFrom : MI := (yX5_copyFrom, cX5_copyFrom, 2, none, [])
set_option maxRecDepth 10000 in
theorem mk_X5_copyFrom : MOk M_X5_copyFrom 1 := ⟨in_tb (in_t3 (List.mem_of_getElem? (i := 161) rfl)) rfl, rfl, ini_X5, ⟨by decide, by decide, by decide +kernel⟩, by decide⟩
set_option maxRecDepth 10000 in
theorem im_X5_copyFrom : Cond.instanceMethod yX5_copyFrom ∈ tbw := in_tb (in_t3 (List.mem_of_getElem? (i := 159) rfl)) rfl
set_option maxRecDepth 10000 in
theorem se_X5_copyFrom : Cond.selects yX5_copyFrom.cls yX5_copyFrom yX5_copyFrom ∈ tbw := in_tb (in_t3 (List.mem_of_getElem? (i := 160) rfl)) rfl
def M_X5_read : MI := (yX5_read, cX5_read, 2, some (.boolean), [])
set_option maxRecDepth 10000 in
theorem mk_X5_read : MOk M_X5_read 1 := ⟨in_tb (in_t4 (List.mem_of_getElem? (i := 198) rfl)) rfl, rfl, ini_X5, ⟨by decide, by decide, by decide +kernel⟩, by decide⟩
set_option maxRecDepth 10000 in
theorem im_X5_read : Cond.instanceMethod yX5_read ∈ tbw := in_tb (in_t4 (List.mem_of_getElem? (i := 196) rfl)) rfl
set_option maxRecDepth 10000 in
theorem se_X5_read : Cond.selects yX5_read.cls yX5_read yX5_read ∈ tbw := in_tb (in_t4 (List.mem_of_getElem? (i := 197) rfl)) rfl
def M_X5_readAny : MI := (yX5_readAny, cX5_readAny, 4, some (.boolean), [])
set_option maxRecDepth 10000 in
theorem mk_X5_readAny : MOk M_X5_readAny 2 := ⟨in_tb (in_t4 (List.mem_of_getElem? (i := 212) rfl)) rfl, rfl, ini_X5, ⟨by decide, by decide, by decide +kernel⟩, by decide⟩
set_option maxRecDepth 10000 in
theorem im_X5_readAny : Cond.instanceMethod yX5_readAny ∈ tbw := in_tb (in_t4 (List.mem_of_getElem? (i := 211) rfl)) rfl
set_option maxRecDepth 10000 in
theorem se_X5_readAny : Cond.selects yX5_readAny.cls yX5_readAny yX5_readAny ∈ tbw := in_tb (in_p2 (i := 0) rfl) rfl
def M_X5_readEach : MI := (yX5_readEach, cX5_readEach, 4, some (.boolean), [])
set_option maxRecDepth 10000 in
theorem mk_X5_readEach : MOk M_X5_readEach 2 := ⟨in_tb (in_t4 (List.mem_of_getElem? (i := 216) rfl)) rfl, rfl, ini_X5, ⟨by decide, by decide, by decide +kernel⟩, by decide⟩
set_option maxRecDepth 10000 in
theorem im_X5_readEach : Cond.instanceMethod yX5_readEach ∈ tbw := in_tb (in_t4 (List.mem_of_getElem? (i := 215) rfl)) rfl
set_option maxRecDepth 10000 in
theorem se_X5_readEach : Cond.selects yX5_readEach.cls yX5_readEach yX5_readEach ∈ tbw := in_tb (in_p2 (i := 1) rfl) rfl
def M_X5_readAtom : MI := (yX5_readAtom, cX5_readAtom, 5, some (.boolean), [])
set_option maxRecDepth 10000 in
theorem mk_X5_readAtom : MOk M_X5_readAtom 2 := ⟨in_tb (in_t4 (List.mem_of_getElem? (i := 220) rfl)) rfl, rfl, ini_X5, ⟨by decide, by decide, by decide +kernel⟩, by decide⟩
set_option maxRecDepth 10000 in
theorem im_X5_readAtom : Cond.instanceMethod yX5_readAtom ∈ tbw := in_tb (in_t4 (List.mem_of_getElem? (i := 219) rfl)) rfl
set_option maxRecDepth 10000 in
theorem se_X5_readAtom : Cond.selects yX5_readAtom.cls yX5_readAtom yX5_readAtom ∈ tbw := in_tb (in_p2 (i := 2) rfl) rfl
def M_X5_readSum : MI := (yX5_readSum, cX5_readSum, 3, some (.boolean), [])
set_option maxRecDepth 10000 in
theorem mk_X5_readSum : MOk M_X5_readSum 1 := ⟨in_tb (in_t4 (List.mem_of_getElem? (i := 228) rfl)) rfl, rfl, ini_X5, ⟨by decide, by decide, by decide +kernel⟩, by decide⟩
set_option maxRecDepth 10000 in
theorem im_X5_readSum : Cond.instanceMethod yX5_readSum ∈ tbw := in_tb (in_t4 (List.mem_of_getElem? (i := 227) rfl)) rfl
set_option maxRecDepth 10000 in
theorem se_X5_readSum : Cond.selects yX5_readSum.cls yX5_readSum yX5_readSum ∈ tbw := in_tb (in_p2 (i := 3) rfl) rfl
def M_X5_readPart : MI := (yX5_readPart, cX5_readPart, 3, some (.boolean), [])
set_option maxRecDepth 10000 in
theorem mk_X5_readPart : MOk M_X5_readPart 1 := ⟨in_tb (in_t4 (List.mem_of_getElem? (i := 232) rfl)) rfl, rfl, ini_X5, ⟨by decide, by decide, by decide +kernel⟩, by decide⟩
set_option maxRecDepth 10000 in
theorem im_X5_readPart : Cond.instanceMethod yX5_readPart ∈ tbw := in_tb (in_t4 (List.mem_of_getElem? (i := 231) rfl)) rfl
set_option maxRecDepth 10000 in
theorem se_X5_readPart : Cond.selects yX5_readPart.cls yX5_readPart yX5_readPart ∈ tbw := in_tb (in_p2 (i := 4) rfl) rfl
def M_X5_write : MI := (yX5_write, cX5_write, 2, none, [])
set_option maxRecDepth 10000 in
theorem mk_X5_write : MOk M_X5_write 1 := ⟨in_tb (in_t4 (List.mem_of_getElem? (i := 207) rfl)) rfl, rfl, ini_X5, ⟨by decide, by decide, by decide +kernel⟩, by decide⟩
set_option maxRecDepth 10000 in
theorem im_X5_write : Cond.instanceMethod yX5_write ∈ tbw := in_tb (in_t4 (List.mem_of_getElem? (i := 206) rfl)) rfl
set_option maxRecDepth 10000 in
theorem se_X5_write : Cond.selects yX5_write.cls yX5_write yX5_write ∈ tbw := in_tb (in_p1 (i := 15) rfl) rfl
def M_X5_isEmpty : MI := (yX5_isEmpty, cX5_isEmpty, 1, some (.boolean), [])
set_option maxRecDepth 10000 in
theorem mk_X5_isEmpty : MOk M_X5_isEmpty 0 := ⟨in_tb (in_t3 (List.mem_of_getElem? (i := 28) rfl)) rfl, rfl, ini_X5, ⟨by decide, by decide, by decide +kernel⟩, by decide⟩
set_option maxRecDepth 10000 in
theorem im_X5_isEmpty : Cond.instanceMethod yX5_isEmpty ∈ tbw := in_tb (in_t3 (List.mem_of_getElem? (i := 26) rfl)) rfl
set_option maxRecDepth 10000 in
theorem se_X5_isEmpty : Cond.selects yX5_isEmpty.cls yX5_isEmpty yX5_isEmpty ∈ tbw := in_tb (in_t3 (List.mem_of_getElem? (i := 27) rfl)) rfl
def M_X5_bars : MI := (yX5_bars, cX5_bars, 9, some (.boolean), [])
set_option maxRecDepth 10000 in
theorem mk_X5_bars : MOk M_X5_bars 5 := ⟨in_tb (in_t3 (List.mem_of_getElem? (i := 67) rfl)) rfl, rfl, ini_X5, ⟨by decide, by decide, by decide +kernel⟩, by decide⟩
set_option maxRecDepth 10000 in
theorem im_X5_bars : Cond.instanceMethod yX5_bars ∈ tbw := in_tb (in_t3 (List.mem_of_getElem? (i := 65) rfl)) rfl
set_option maxRecDepth 10000 in
theorem se_X5_bars : Cond.selects yX5_bars.cls yX5_bars yX5_bars ∈ tbw := in_tb (in_t3 (List.mem_of_getElem? (i := 66) rfl)) rfl
def M_X5_valueOf : MI := (yX5_valueOf, cX5_valueOf, 6, some (.int), [])
set_option maxRecDepth 10000 in
theorem mk_X5_valueOf : MOk M_X5_valueOf 6 := ⟨in_tb (in_t3 (List.mem_of_getElem? (i := 70) rfl)) rfl, rfl, ini_X5, ⟨by decide, by decide, by decide +kernel⟩, by decide⟩
set_option maxRecDepth 10000 in
theorem sm_X5_valueOf : Cond.static yX5_valueOf ∈ tbw := in_tb (in_t3 (List.mem_of_getElem? (i := 69) rfl)) rfl
def M_X5_joined : MI := (yX5_joined, cX5_joined, 3, some (.int), [])
set_option maxRecDepth 10000 in
theorem mk_X5_joined : MOk M_X5_joined 3 := ⟨in_tb (in_t3 (List.mem_of_getElem? (i := 73) rfl)) rfl, rfl, ini_X5, ⟨by decide, by decide, by decide +kernel⟩, by decide⟩
set_option maxRecDepth 10000 in
theorem sm_X5_joined : Cond.static yX5_joined ∈ tbw := in_tb (in_t3 (List.mem_of_getElem? (i := 72) rfl)) rfl
def M_X6_init : MI := (yX6_init, cX6_init, 1, none, [])
set_option maxRecDepth 10000 in
theorem mk_X6_init : MOk M_X6_init 0 := ⟨in_tb (in_t1 (List.mem_of_getElem? (i := 84) rfl)) rfl, rfl, ini_X6, ⟨by decide, by decide, by decide +kernel⟩, by decide⟩
set_option maxRecDepth 10000 in
theorem im_X6_init : Cond.instanceMethod yX6_init ∈ tbw := in_tb (in_t1 (List.mem_of_getElem? (i := 83) rfl)) rfl
def M_X6_copyFrom : MI := (yX6_copyFrom, cX6_copyFrom, 2, none, [])
set_option maxRecDepth 10000 in
theorem mk_X6_copyFrom : MOk M_X6_copyFrom 1 := ⟨in_tb (in_t3 (List.mem_of_getElem? (i := 140) rfl)) rfl, rfl, ini_X6, ⟨by decide, by decide, by decide +kernel⟩, by decide⟩
set_option maxRecDepth 10000 in
theorem im_X6_copyFrom : Cond.instanceMethod yX6_copyFrom ∈ tbw := in_tb (in_t3 (List.mem_of_getElem? (i := 138) rfl)) rfl
set_option maxRecDepth 10000 in
theorem se_X6_copyFrom : Cond.selects yX6_copyFrom.cls yX6_copyFrom yX6_copyFrom ∈ tbw := in_tb (in_t3 (List.mem_of_getElem? (i := 139) rfl)) rfl
def M_X6_append : MI := (yX6_append, cX6_append, 5, none, [])
set_option maxRecDepth 10000 in
theorem mk_X6_append : MOk M_X6_append 2 := ⟨in_tb (in_t4 (List.mem_of_getElem? (i := 53) rfl)) rfl, rfl, ini_X6, ⟨by decide, by decide, by decide +kernel⟩, by decide⟩
set_option maxRecDepth 10000 in
theorem im_X6_append : Cond.instanceMethod yX6_append ∈ tbw := in_tb (in_t4 (List.mem_of_getElem? (i := 51) rfl)) rfl
set_option maxRecDepth 10000 in
theorem se_X6_append : Cond.selects yX6_append.cls yX6_append yX6_append ∈ tbw := in_tb (in_t4 (List.mem_of_getElem? (i := 52) rfl)) rfl
def M_X6_remove : MI := (yX6_remove, cX6_remove, 3, none, [])
set_option maxRecDepth 10000 in
theorem mk_X6_remove : MOk M_X6_remove 1 := ⟨in_tb (in_t4 (List.mem_of_getElem? (i := 102) rfl)) rfl, rfl, ini_X6, ⟨by decide, by decide, by decide +kernel⟩, by decide⟩
set_option maxRecDepth 10000 in
theorem im_X6_remove : Cond.instanceMethod yX6_remove ∈ tbw := in_tb (in_t4 (List.mem_of_getElem? (i := 100) rfl)) rfl
set_option maxRecDepth 10000 in
theorem se_X6_remove : Cond.selects yX6_remove.cls yX6_remove yX6_remove ∈ tbw := in_tb (in_t4 (List.mem_of_getElem? (i := 101) rfl)) rfl
def M_X6_kindsOfLefts : MI := (yX6_kindsOfLefts, cX6_kindsOfLefts, 3, some (.int), [])
set_option maxRecDepth 10000 in
theorem mk_X6_kindsOfLefts : MOk M_X6_kindsOfLefts 0 := ⟨in_tb (in_t3 (List.mem_of_getElem? (i := 33) rfl)) rfl, rfl, ini_X6, ⟨by decide, by decide, by decide +kernel⟩, by decide⟩
set_option maxRecDepth 10000 in
theorem im_X6_kindsOfLefts : Cond.instanceMethod yX6_kindsOfLefts ∈ tbw := in_tb (in_t3 (List.mem_of_getElem? (i := 31) rfl)) rfl
set_option maxRecDepth 10000 in
theorem se_X6_kindsOfLefts : Cond.selects yX6_kindsOfLefts.cls yX6_kindsOfLefts yX6_kindsOfLefts ∈ tbw := in_tb (in_t3 (List.mem_of_getElem? (i := 32) rfl)) rfl
def M_X6_kindsOfRights : MI := (yX6_kindsOfRights, cX6_kindsOfRights, 3, some (.int), [])
set_option maxRecDepth 10000 in
theorem mk_X6_kindsOfRights : MOk M_X6_kindsOfRights 0 := ⟨in_tb (in_t6 (List.mem_of_getElem? (i := 136) rfl)) rfl, rfl, ini_X6, ⟨by decide, by decide, by decide +kernel⟩, by decide⟩
set_option maxRecDepth 10000 in
theorem im_X6_kindsOfRights : Cond.instanceMethod yX6_kindsOfRights ∈ tbw := in_tb (in_t6 (List.mem_of_getElem? (i := 134) rfl)) rfl
set_option maxRecDepth 10000 in
theorem se_X6_kindsOfRights : Cond.selects yX6_kindsOfRights.cls yX6_kindsOfRights yX6_kindsOfRights ∈ tbw := in_tb (in_t6 (List.mem_of_getElem? (i := 135) rfl)) rfl
def M_X6_kinds : MI := (yX6_kinds, cX6_kinds, 1, some (.int), [])
set_option maxRecDepth 10000 in
theorem mk_X6_kinds : MOk M_X6_kinds 0 := ⟨in_tb (in_t6 (List.mem_of_getElem? (i := 131) rfl)) rfl, rfl, ini_X6, ⟨by decide, by decide, by decide +kernel⟩, by decide⟩
set_option maxRecDepth 10000 in
theorem im_X6_kinds : Cond.instanceMethod yX6_kinds ∈ tbw := in_tb (in_t6 (List.mem_of_getElem? (i := 129) rfl)) rfl
set_option maxRecDepth 10000 in
theorem se_X6_kinds : Cond.selects yX6_kinds.cls yX6_kinds yX6_kinds ∈ tbw := in_tb (in_t6 (List.mem_of_getElem? (i := 130) rfl)) rfl
def M_X6_shrinking : MI := (yX6_shrinking, cX6_shrinking, 3, some (.int), [])
set_option maxRecDepth 10000 in
theorem mk_X6_shrinking : MOk M_X6_shrinking 0 := ⟨in_tb (in_t7 (List.mem_of_getElem? (i := 64) rfl)) rfl, rfl, ini_X6, ⟨by decide, by decide, by decide +kernel⟩, by decide⟩
set_option maxRecDepth 10000 in
theorem im_X6_shrinking : Cond.instanceMethod yX6_shrinking ∈ tbw := in_tb (in_t7 (List.mem_of_getElem? (i := 62) rfl)) rfl
set_option maxRecDepth 10000 in
theorem se_X6_shrinking : Cond.selects yX6_shrinking.cls yX6_shrinking yX6_shrinking ∈ tbw := in_tb (in_t7 (List.mem_of_getElem? (i := 63) rfl)) rfl
def M_X6_growing : MI := (yX6_growing, cX6_growing, 3, some (.int), [])
set_option maxRecDepth 10000 in
theorem mk_X6_growing : MOk M_X6_growing 0 := ⟨in_tb (in_t7 (List.mem_of_getElem? (i := 68) rfl)) rfl, rfl, ini_X6, ⟨by decide, by decide, by decide +kernel⟩, by decide⟩
set_option maxRecDepth 10000 in
theorem im_X6_growing : Cond.instanceMethod yX6_growing ∈ tbw := in_tb (in_t7 (List.mem_of_getElem? (i := 66) rfl)) rfl
set_option maxRecDepth 10000 in
theorem se_X6_growing : Cond.selects yX6_growing.cls yX6_growing yX6_growing ∈ tbw := in_tb (in_t7 (List.mem_of_getElem? (i := 67) rfl)) rfl
def M_X7_init : MI := (yX7_init, cX7_init, 1, none, [])
set_option maxRecDepth 10000 in
theorem mk_X7_init : MOk M_X7_init 0 := ⟨in_tb (in_t2 (List.mem_of_getElem? (i := 100) rfl)) rfl, rfl, ini_X7, ⟨by decide, by decide, by decide +kernel⟩, by decide⟩
set_option maxRecDepth 10000 in
theorem im_X7_init : Cond.instanceMethod yX7_init ∈ tbw := in_tb (in_t2 (List.mem_of_getElem? (i := 99) rfl)) rfl
def M_X7_list : MI := (yX7_list, cX7_list, 3, some (.boolean), [])
set_option maxRecDepth 10000 in
theorem mk_X7_list : MOk M_X7_list 1 := ⟨in_tb (in_t6 (List.mem_of_getElem? (i := 140) rfl)) rfl, rfl, ini_X7, ⟨by decide, by decide, by decide +kernel⟩, by decide⟩
set_option maxRecDepth 10000 in
theorem im_X7_list : Cond.instanceMethod yX7_list ∈ tbw := in_tb (in_t6 (List.mem_of_getElem? (i := 138) rfl)) rfl
set_option maxRecDepth 10000 in
theorem se_X7_list : Cond.selects yX7_list.cls yX7_list yX7_list ∈ tbw := in_tb (in_t6 (List.mem_of_getElem? (i := 139) rfl)) rfl
def M_X7_loadRules : MI := (yX7_loadRules, cX7_loadRules, 3, none, [])
set_option maxRecDepth 10000 in
theorem mk_X7_loadRules : MOk M_X7_loadRules 1 := ⟨in_tb (in_t6 (List.mem_of_getElem? (i := 145) rfl)) rfl, rfl, ini_X7, ⟨by decide, by decide, by decide +kernel⟩, by decide⟩
set_option maxRecDepth 10000 in
theorem im_X7_loadRules : Cond.instanceMethod yX7_loadRules ∈ tbw := in_tb (in_t6 (List.mem_of_getElem? (i := 143) rfl)) rfl
set_option maxRecDepth 10000 in
theorem se_X7_loadRules : Cond.selects yX7_loadRules.cls yX7_loadRules yX7_loadRules ∈ tbw := in_tb (in_t6 (List.mem_of_getElem? (i := 144) rfl)) rfl
def M_X7_loadPair : MI := (yX7_loadPair, cX7_loadPair, 6, none, [])
set_option maxRecDepth 10000 in
theorem mk_X7_loadPair : MOk M_X7_loadPair 2 := ⟨in_tb (in_t6 (List.mem_of_getElem? (i := 150) rfl)) rfl, rfl, ini_X7, ⟨by decide, by decide, by decide +kernel⟩, by decide⟩
set_option maxRecDepth 10000 in
theorem im_X7_loadPair : Cond.instanceMethod yX7_loadPair ∈ tbw := in_tb (in_t6 (List.mem_of_getElem? (i := 148) rfl)) rfl
set_option maxRecDepth 10000 in
theorem se_X7_loadPair : Cond.selects yX7_loadPair.cls yX7_loadPair yX7_loadPair ∈ tbw := in_tb (in_t6 (List.mem_of_getElem? (i := 149) rfl)) rfl
def M_X7_countBeasts : MI := (yX7_countBeasts, cX7_countBeasts, 6, none, [])
set_option maxRecDepth 10000 in
theorem mk_X7_countBeasts : MOk M_X7_countBeasts 2 := ⟨in_tb (in_t6 (List.mem_of_getElem? (i := 154) rfl)) rfl, rfl, ini_X7, ⟨by decide, by decide, by decide +kernel⟩, by decide⟩
set_option maxRecDepth 10000 in
theorem im_X7_countBeasts : Cond.instanceMethod yX7_countBeasts ∈ tbw := in_tb (in_t6 (List.mem_of_getElem? (i := 153) rfl)) rfl
set_option maxRecDepth 10000 in
theorem se_X7_countBeasts : Cond.selects yX7_countBeasts.cls yX7_countBeasts yX7_countBeasts ∈ tbw := in_tb (in_p3 (i := 0) rfl) rfl
def M_X7_findModulo : MI := (yX7_findModulo, cX7_findModulo, 2, some (.boolean), [])
set_option maxRecDepth 10000 in
theorem mk_X7_findModulo : MOk M_X7_findModulo 1 := ⟨in_tb (in_t6 (List.mem_of_getElem? (i := 161) rfl)) rfl, rfl, ini_X7, ⟨by decide, by decide, by decide +kernel⟩, by decide⟩
set_option maxRecDepth 10000 in
theorem im_X7_findModulo : Cond.instanceMethod yX7_findModulo ∈ tbw := in_tb (in_t6 (List.mem_of_getElem? (i := 159) rfl)) rfl
set_option maxRecDepth 10000 in
theorem se_X7_findModulo : Cond.selects yX7_findModulo.cls yX7_findModulo yX7_findModulo ∈ tbw := in_tb (in_t6 (List.mem_of_getElem? (i := 160) rfl)) rfl
def M_X7_findFalling : MI := (yX7_findFalling, cX7_findFalling, 2, some (.boolean), [])
set_option maxRecDepth 10000 in
theorem mk_X7_findFalling : MOk M_X7_findFalling 1 := ⟨in_tb (in_t6 (List.mem_of_getElem? (i := 184) rfl)) rfl, rfl, ini_X7, ⟨by decide, by decide, by decide +kernel⟩, by decide⟩
set_option maxRecDepth 10000 in
theorem im_X7_findFalling : Cond.instanceMethod yX7_findFalling ∈ tbw := in_tb (in_t6 (List.mem_of_getElem? (i := 182) rfl)) rfl
set_option maxRecDepth 10000 in
theorem se_X7_findFalling : Cond.selects yX7_findFalling.cls yX7_findFalling yX7_findFalling ∈ tbw := in_tb (in_t6 (List.mem_of_getElem? (i := 183) rfl)) rfl
def M_X7_find : MI := (yX7_find, cX7_find, 4, some (.boolean), [])
set_option maxRecDepth 10000 in
theorem mk_X7_find : MOk M_X7_find 1 := ⟨in_tb (in_t6 (List.mem_of_getElem? (i := 165) rfl)) rfl, rfl, ini_X7, ⟨by decide, by decide, by decide +kernel⟩, by decide⟩
set_option maxRecDepth 10000 in
theorem im_X7_find : Cond.instanceMethod yX7_find ∈ tbw := in_tb (in_t6 (List.mem_of_getElem? (i := 164) rfl)) rfl
set_option maxRecDepth 10000 in
theorem se_X7_find : Cond.selects yX7_find.cls yX7_find yX7_find ∈ tbw := in_tb (in_p3 (i := 1) rfl) rfl
def M_X7_holdsBehind : MI := (yX7_holdsBehind, cX7_holdsBehind, 3, some (.boolean), [])
set_option maxRecDepth 10000 in
theorem mk_X7_holdsBehind : MOk M_X7_holdsBehind 1 := ⟨in_tb (in_t6 (List.mem_of_getElem? (i := 169) rfl)) rfl, rfl, ini_X7, ⟨by decide, by decide, by decide +kernel⟩, by decide⟩
set_option maxRecDepth 10000 in
theorem im_X7_holdsBehind : Cond.instanceMethod yX7_holdsBehind ∈ tbw := in_tb (in_t6 (List.mem_of_getElem? (i := 168) rfl)) rfl
set_option maxRecDepth 10000 in
theorem se_X7_holdsBehind : Cond.selects yX7_holdsBehind.cls yX7_holdsBehind yX7_holdsBehind ∈ tbw := in_tb (in_p3 (i := 2) rfl) rfl
def M_X7_holds : MI := (yX7_holds, cX7_holds, 4, some (.boolean), [])
set_option maxRecDepth 10000 in
theorem mk_X7_holds : MOk M_X7_holds 1 := ⟨in_tb (in_t6 (List.mem_of_getElem? (i := 173) rfl)) rfl, rfl, ini_X7, ⟨by decide, by decide, by decide +kernel⟩, by decide⟩
set_option maxRecDepth 10000 in
theorem im_X7_holds : Cond.instanceMethod yX7_holds ∈ tbw := in_tb (in_t6 (List.mem_of_getElem? (i := 172) rfl)) rfl
set_option maxRecDepth 10000 in
theorem se_X7_holds : Cond.selects yX7_holds.cls yX7_holds yX7_holds ∈ tbw := in_tb (in_p3 (i := 3) rfl) rfl
def M_X8_init : MI := (yX8_init, cX8_init, 1, none, [])
set_option maxRecDepth 10000 in
theorem mk_X8_init : MOk M_X8_init 0 := ⟨in_tb (in_t1 (List.mem_of_getElem? (i := 44) rfl)) rfl, rfl, ini_X8, ⟨by decide, by decide, by decide +kernel⟩, by decide⟩
set_option maxRecDepth 10000 in
theorem im_X8_init : Cond.instanceMethod yX8_init ∈ tbw := in_tb (in_t1 (List.mem_of_getElem? (i := 43) rfl)) rfl
def M_X8_append : MI := (yX8_append, cX8_append, 3, none, [])
set_option maxRecDepth 10000 in
theorem mk_X8_append : MOk M_X8_append 1 := ⟨in_tb (in_t3 (List.mem_of_getElem? (i := 8) rfl)) rfl, rfl, ini_X8, ⟨by decide, by decide, by decide +kernel⟩, by decide⟩
set_option maxRecDepth 10000 in
theorem im_X8_append : Cond.instanceMethod yX8_append ∈ tbw := in_tb (in_t3 (List.mem_of_getElem? (i := 6) rfl)) rfl
set_option maxRecDepth 10000 in
theorem se_X8_append : Cond.selects yX8_append.cls yX8_append yX8_append ∈ tbw := in_tb (in_t3 (List.mem_of_getElem? (i := 7) rfl)) rfl
def M_X8_begin : MI := (yX8_begin, cX8_begin, 1, none, [])
set_option maxRecDepth 10000 in
theorem mk_X8_begin : MOk M_X8_begin 0 := ⟨in_tb (in_t3 (List.mem_of_getElem? (i := 200) rfl)) rfl, rfl, ini_X8, ⟨by decide, by decide, by decide +kernel⟩, by decide⟩
set_option maxRecDepth 10000 in
theorem im_X8_begin : Cond.instanceMethod yX8_begin ∈ tbw := in_tb (in_t3 (List.mem_of_getElem? (i := 198) rfl)) rfl
set_option maxRecDepth 10000 in
theorem se_X8_begin : Cond.selects yX8_begin.cls yX8_begin yX8_begin ∈ tbw := in_tb (in_t3 (List.mem_of_getElem? (i := 199) rfl)) rfl
def M_X8_advance : MI := (yX8_advance, cX8_advance, 1, none, [])
set_option maxRecDepth 10000 in
theorem mk_X8_advance : MOk M_X8_advance 0 := ⟨in_tb (in_t3 (List.mem_of_getElem? (i := 204) rfl)) rfl, rfl, ini_X8, ⟨by decide, by decide, by decide +kernel⟩, by decide⟩
set_option maxRecDepth 10000 in
theorem im_X8_advance : Cond.instanceMethod yX8_advance ∈ tbw := in_tb (in_t3 (List.mem_of_getElem? (i := 202) rfl)) rfl
set_option maxRecDepth 10000 in
theorem se_X8_advance : Cond.selects yX8_advance.cls yX8_advance yX8_advance ∈ tbw := in_tb (in_t3 (List.mem_of_getElem? (i := 203) rfl)) rfl
def M_X8_isWrong : MI := (yX8_isWrong, cX8_isWrong, 1, some (.boolean), [])
set_option maxRecDepth 10000 in
theorem mk_X8_isWrong : MOk M_X8_isWrong 0 := ⟨in_tb (in_t4 (List.mem_of_getElem? (i := 42) rfl)) rfl, rfl, ini_X8, ⟨by decide, by decide, by decide +kernel⟩, by decide⟩
set_option maxRecDepth 10000 in
theorem im_X8_isWrong : Cond.instanceMethod yX8_isWrong ∈ tbw := in_tb (in_t4 (List.mem_of_getElem? (i := 40) rfl)) rfl
set_option maxRecDepth 10000 in
theorem se_X8_isWrong : Cond.selects yX8_isWrong.cls yX8_isWrong yX8_isWrong ∈ tbw := in_tb (in_t4 (List.mem_of_getElem? (i := 41) rfl)) rfl
def M_X8_isWord : MI := (yX8_isWord, cX8_isWord, 3, some (.boolean), [])
set_option maxRecDepth 10000 in
theorem mk_X8_isWord : MOk M_X8_isWord 1 := ⟨in_tb (in_t3 (List.mem_of_getElem? (i := 213) rfl)) rfl, rfl, ini_X8, ⟨by decide, by decide, by decide +kernel⟩, by decide⟩
set_option maxRecDepth 10000 in
theorem im_X8_isWord : Cond.instanceMethod yX8_isWord ∈ tbw := in_tb (in_t3 (List.mem_of_getElem? (i := 211) rfl)) rfl
set_option maxRecDepth 10000 in
theorem se_X8_isWord : Cond.selects yX8_isWord.cls yX8_isWord yX8_isWord ∈ tbw := in_tb (in_t3 (List.mem_of_getElem? (i := 212) rfl)) rfl
def M_X8_skipWord : MI := (yX8_skipWord, cX8_skipWord, 2, some (.boolean), [])
set_option maxRecDepth 10000 in
theorem mk_X8_skipWord : MOk M_X8_skipWord 1 := ⟨in_tb (in_t4 (List.mem_of_getElem? (i := 48) rfl)) rfl, rfl, ini_X8, ⟨by decide, by decide, by decide +kernel⟩, by decide⟩
set_option maxRecDepth 10000 in
theorem im_X8_skipWord : Cond.instanceMethod yX8_skipWord ∈ tbw := in_tb (in_t4 (List.mem_of_getElem? (i := 46) rfl)) rfl
set_option maxRecDepth 10000 in
theorem se_X8_skipWord : Cond.selects yX8_skipWord.cls yX8_skipWord yX8_skipWord ∈ tbw := in_tb (in_t4 (List.mem_of_getElem? (i := 47) rfl)) rfl
def M_X8_skip : MI := (yX8_skip, cX8_skip, 2, some (.boolean), [])
set_option maxRecDepth 10000 in
theorem mk_X8_skip : MOk M_X8_skip 1 := ⟨in_tb (in_t4 (List.mem_of_getElem? (i := 106) rfl)) rfl, rfl, ini_X8, ⟨by decide, by decide, by decide +kernel⟩, by decide⟩
set_option maxRecDepth 10000 in
theorem im_X8_skip : Cond.instanceMethod yX8_skip ∈ tbw := in_tb (in_t4 (List.mem_of_getElem? (i := 104) rfl)) rfl
set_option maxRecDepth 10000 in
theorem se_X8_skip : Cond.selects yX8_skip.cls yX8_skip yX8_skip ∈ tbw := in_tb (in_t4 (List.mem_of_getElem? (i := 105) rfl)) rfl
def M_X8_readNumber : MI := (yX8_readNumber, cX8_readNumber, 3, some (.int), [])
set_option maxRecDepth 10000 in
theorem mk_X8_readNumber : MOk M_X8_readNumber 1 := ⟨in_tb (in_t4 (List.mem_of_getElem? (i := 87) rfl)) rfl, rfl, ini_X8, ⟨by decide, by decide, by decide +kernel⟩, by decide⟩
set_option maxRecDepth 10000 in
theorem im_X8_readNumber : Cond.instanceMethod yX8_readNumber ∈ tbw := in_tb (in_t4 (List.mem_of_getElem? (i := 85) rfl)) rfl
set_option maxRecDepth 10000 in
theorem se_X8_readNumber : Cond.selects yX8_readNumber.cls yX8_readNumber yX8_readNumber ∈ tbw := in_tb (in_t4 (List.mem_of_getElem? (i := 86) rfl)) rfl
def M_X8_readBeasts : MI := (yX8_readBeasts, cX8_readBeasts, 5, some (.long), [])
set_option maxRecDepth 10000 in
theorem mk_X8_readBeasts : MOk M_X8_readBeasts 2 := ⟨in_tb (in_t4 (List.mem_of_getElem? (i := 30) rfl)) rfl, rfl, ini_X8, ⟨by decide, by decide, by decide +kernel⟩, by decide⟩
set_option maxRecDepth 10000 in
theorem im_X8_readBeasts : Cond.instanceMethod yX8_readBeasts ∈ tbw := in_tb (in_t4 (List.mem_of_getElem? (i := 28) rfl)) rfl
set_option maxRecDepth 10000 in
theorem se_X8_readBeasts : Cond.selects yX8_readBeasts.cls yX8_readBeasts yX8_readBeasts ∈ tbw := in_tb (in_t4 (List.mem_of_getElem? (i := 29) rfl)) rfl
def M_X8_beastsAhead : MI := (yX8_beastsAhead, cX8_beastsAhead, 5, some (.long), [])
set_option maxRecDepth 10000 in
theorem mk_X8_beastsAhead : MOk M_X8_beastsAhead 0 := ⟨in_tb (in_t4 (List.mem_of_getElem? (i := 34) rfl)) rfl, rfl, ini_X8, ⟨by decide, by decide, by decide +kernel⟩, by decide⟩
set_option maxRecDepth 10000 in
theorem im_X8_beastsAhead : Cond.instanceMethod yX8_beastsAhead ∈ tbw := in_tb (in_t4 (List.mem_of_getElem? (i := 33) rfl)) rfl
set_option maxRecDepth 10000 in
theorem se_X8_beastsAhead : Cond.selects yX8_beastsAhead.cls yX8_beastsAhead yX8_beastsAhead ∈ tbw := in_tb (in_p1 (i := 7) rfl) rfl
def M_X9_init : MI := (yX9_init, cX9_init, 2, none, [])
set_option maxRecDepth 10000 in
theorem mk_X9_init : MOk M_X9_init 0 := ⟨in_tb (in_t1 (List.mem_of_getElem? (i := 78) rfl)) rfl, rfl, ini_X9, ⟨by decide, by decide, by decide +kernel⟩, by decide⟩
set_option maxRecDepth 10000 in
theorem im_X9_init : Cond.instanceMethod yX9_init ∈ tbw := in_tb (in_t1 (List.mem_of_getElem? (i := 77) rfl)) rfl
def M_X9_copyFrom : MI := (yX9_copyFrom, cX9_copyFrom, 3, none, [])
set_option maxRecDepth 10000 in
theorem mk_X9_copyFrom : MOk M_X9_copyFrom 1 := ⟨in_tb (in_t3 (List.mem_of_getElem? (i := 136) rfl)) rfl, rfl, ini_X9, ⟨by decide, by decide, by decide +kernel⟩, by decide⟩
set_option maxRecDepth 10000 in
theorem im_X9_copyFrom : Cond.instanceMethod yX9_copyFrom ∈ tbw := in_tb (in_t3 (List.mem_of_getElem? (i := 134) rfl)) rfl
set_option maxRecDepth 10000 in
theorem se_X9_copyFrom : Cond.selects yX9_copyFrom.cls yX9_copyFrom yX9_copyFrom ∈ tbw := in_tb (in_t3 (List.mem_of_getElem? (i := 135) rfl)) rfl
def M_X9_draw : MI := (yX9_draw, cX9_draw, 1, some (.int), [])
set_option maxRecDepth 10000 in
theorem mk_X9_draw : MOk M_X9_draw 0 := ⟨in_tb (in_t5 (List.mem_of_getElem? (i := 203) rfl)) rfl, rfl, ini_X9, ⟨by decide, by decide, by decide +kernel⟩, by decide⟩
set_option maxRecDepth 10000 in
theorem im_X9_draw : Cond.instanceMethod yX9_draw ∈ tbw := in_tb (in_t5 (List.mem_of_getElem? (i := 201) rfl)) rfl
set_option maxRecDepth 10000 in
theorem se_X9_draw : Cond.selects yX9_draw.cls yX9_draw yX9_draw ∈ tbw := in_tb (in_t5 (List.mem_of_getElem? (i := 202) rfl)) rfl
def M_X9_weigh : MI := (yX9_weigh, cX9_weigh, 6, some (.int), [])
set_option maxRecDepth 10000 in
theorem mk_X9_weigh : MOk M_X9_weigh 1 := ⟨in_tb (in_t6 (List.mem_of_getElem? (i := 195) rfl)) rfl, rfl, ini_X9, ⟨by decide, by decide, by decide +kernel⟩, by decide⟩
set_option maxRecDepth 10000 in
theorem im_X9_weigh : Cond.instanceMethod yX9_weigh ∈ tbw := in_tb (in_t6 (List.mem_of_getElem? (i := 193) rfl)) rfl
set_option maxRecDepth 10000 in
theorem se_X9_weigh : Cond.selects yX9_weigh.cls yX9_weigh yX9_weigh ∈ tbw := in_tb (in_t6 (List.mem_of_getElem? (i := 194) rfl)) rfl
def M_X9_explaining : MI := (yX9_explaining, cX9_explaining, 4, some (.int), [])
set_option maxRecDepth 10000 in
theorem mk_X9_explaining : MOk M_X9_explaining 1 := ⟨in_tb (in_t3 (List.mem_of_getElem? (i := 111) rfl)) rfl, rfl, ini_X9, ⟨by decide, by decide, by decide +kernel⟩, by decide⟩
set_option maxRecDepth 10000 in
theorem im_X9_explaining : Cond.instanceMethod yX9_explaining ∈ tbw := in_tb (in_t3 (List.mem_of_getElem? (i := 109) rfl)) rfl
set_option maxRecDepth 10000 in
theorem se_X9_explaining : Cond.selects yX9_explaining.cls yX9_explaining yX9_explaining ∈ tbw := in_tb (in_t3 (List.mem_of_getElem? (i := 110) rfl)) rfl
def M_X9_stepsOfAll : MI := (yX9_stepsOfAll, cX9_stepsOfAll, 3, some (.int), [])
set_option maxRecDepth 10000 in
theorem mk_X9_stepsOfAll : MOk M_X9_stepsOfAll 0 := ⟨in_tb (in_t3 (List.mem_of_getElem? (i := 178) rfl)) rfl, rfl, ini_X9, ⟨by decide, by decide, by decide +kernel⟩, by decide⟩
set_option maxRecDepth 10000 in
theorem im_X9_stepsOfAll : Cond.instanceMethod yX9_stepsOfAll ∈ tbw := in_tb (in_t3 (List.mem_of_getElem? (i := 176) rfl)) rfl
set_option maxRecDepth 10000 in
theorem se_X9_stepsOfAll : Cond.selects yX9_stepsOfAll.cls yX9_stepsOfAll yX9_stepsOfAll ∈ tbw := in_tb (in_t3 (List.mem_of_getElem? (i := 177) rfl)) rfl
def M_X9_beastsOfAll : MI := (yX9_beastsOfAll, cX9_beastsOfAll, 3, some (.int), [])
set_option maxRecDepth 10000 in
theorem mk_X9_beastsOfAll : MOk M_X9_beastsOfAll 0 := ⟨in_tb (in_t3 (List.mem_of_getElem? (i := 182) rfl)) rfl, rfl, ini_X9, ⟨by decide, by decide, by decide +kernel⟩, by decide⟩
set_option maxRecDepth 10000 in
theorem im_X9_beastsOfAll : Cond.instanceMethod yX9_beastsOfAll ∈ tbw := in_tb (in_t3 (List.mem_of_getElem? (i := 180) rfl)) rfl
set_option maxRecDepth 10000 in
theorem se_X9_beastsOfAll : Cond.selects yX9_beastsOfAll.cls yX9_beastsOfAll yX9_beastsOfAll ∈ tbw := in_tb (in_t3 (List.mem_of_getElem? (i := 181) rfl)) rfl
def M_X9_read : MI := (yX9_read, cX9_read, 3, some (.boolean), [])
set_option maxRecDepth 10000 in
theorem mk_X9_read : MOk M_X9_read 1 := ⟨in_tb (in_t3 (List.mem_of_getElem? (i := 196) rfl)) rfl, rfl, ini_X9, ⟨by decide, by decide, by decide +kernel⟩, by decide⟩
set_option maxRecDepth 10000 in
theorem im_X9_read : Cond.instanceMethod yX9_read ∈ tbw := in_tb (in_t3 (List.mem_of_getElem? (i := 194) rfl)) rfl
set_option maxRecDepth 10000 in
theorem se_X9_read : Cond.selects yX9_read.cls yX9_read yX9_read ∈ tbw := in_tb (in_t3 (List.mem_of_getElem? (i := 195) rfl)) rfl
def M_X9_readLine : MI := (yX9_readLine, cX9_readLine, 2, some (.boolean), [])
set_option maxRecDepth 10000 in
theorem mk_X9_readLine : MOk M_X9_readLine 1 := ⟨in_tb (in_t3 (List.mem_of_getElem? (i := 208) rfl)) rfl, rfl, ini_X9, ⟨by decide, by decide, by decide +kernel⟩, by decide⟩
set_option maxRecDepth 10000 in
theorem im_X9_readLine : Cond.instanceMethod yX9_readLine ∈ tbw := in_tb (in_t3 (List.mem_of_getElem? (i := 207) rfl)) rfl
set_option maxRecDepth 10000 in
theorem se_X9_readLine : Cond.selects yX9_readLine.cls yX9_readLine yX9_readLine ∈ tbw := in_tb (in_p1 (i := 5) rfl) rfl
def M_X9_readRule : MI := (yX9_readRule, cX9_readRule, 6, some (.boolean), [])
set_option maxRecDepth 10000 in
theorem mk_X9_readRule : MOk M_X9_readRule 1 := ⟨in_tb (in_t4 (List.mem_of_getElem? (i := 25) rfl)) rfl, rfl, ini_X9, ⟨by decide, by decide, by decide +kernel⟩, by decide⟩
set_option maxRecDepth 10000 in
theorem im_X9_readRule : Cond.instanceMethod yX9_readRule ∈ tbw := in_tb (in_t4 (List.mem_of_getElem? (i := 24) rfl)) rfl
set_option maxRecDepth 10000 in
theorem se_X9_readRule : Cond.selects yX9_readRule.cls yX9_readRule yX9_readRule ∈ tbw := in_tb (in_p1 (i := 6) rfl) rfl
def M_X9_readField : MI := (yX9_readField, cX9_readField, 4, some (.boolean), [])
set_option maxRecDepth 10000 in
theorem mk_X9_readField : MOk M_X9_readField 1 := ⟨in_tb (in_t4 (List.mem_of_getElem? (i := 60) rfl)) rfl, rfl, ini_X9, ⟨by decide, by decide, by decide +kernel⟩, by decide⟩
set_option maxRecDepth 10000 in
theorem im_X9_readField : Cond.instanceMethod yX9_readField ∈ tbw := in_tb (in_t4 (List.mem_of_getElem? (i := 59) rfl)) rfl
set_option maxRecDepth 10000 in
theorem se_X9_readField : Cond.selects yX9_readField.cls yX9_readField yX9_readField ∈ tbw := in_tb (in_p1 (i := 8) rfl) rfl
def M_X9_readSeen : MI := (yX9_readSeen, cX9_readSeen, 6, some (.boolean), [])
set_option maxRecDepth 10000 in
theorem mk_X9_readSeen : MOk M_X9_readSeen 1 := ⟨in_tb (in_t4 (List.mem_of_getElem? (i := 70) rfl)) rfl, rfl, ini_X9, ⟨by decide, by decide, by decide +kernel⟩, by decide⟩
set_option maxRecDepth 10000 in
theorem im_X9_readSeen : Cond.instanceMethod yX9_readSeen ∈ tbw := in_tb (in_t4 (List.mem_of_getElem? (i := 69) rfl)) rfl
set_option maxRecDepth 10000 in
theorem se_X9_readSeen : Cond.selects yX9_readSeen.cls yX9_readSeen yX9_readSeen ∈ tbw := in_tb (in_p1 (i := 9) rfl) rfl
def M_X9_readFirst : MI := (yX9_readFirst, cX9_readFirst, 3, some (.boolean), [])
set_option maxRecDepth 10000 in
theorem mk_X9_readFirst : MOk M_X9_readFirst 1 := ⟨in_tb (in_t4 (List.mem_of_getElem? (i := 75) rfl)) rfl, rfl, ini_X9, ⟨by decide, by decide, by decide +kernel⟩, by decide⟩
set_option maxRecDepth 10000 in
theorem im_X9_readFirst : Cond.instanceMethod yX9_readFirst ∈ tbw := in_tb (in_t4 (List.mem_of_getElem? (i := 74) rfl)) rfl
set_option maxRecDepth 10000 in
theorem se_X9_readFirst : Cond.selects yX9_readFirst.cls yX9_readFirst yX9_readFirst ∈ tbw := in_tb (in_p1 (i := 10) rfl) rfl
def M_X9_readFog : MI := (yX9_readFog, cX9_readFog, 3, some (.boolean), [])
set_option maxRecDepth 10000 in
theorem mk_X9_readFog : MOk M_X9_readFog 1 := ⟨in_tb (in_t4 (List.mem_of_getElem? (i := 83) rfl)) rfl, rfl, ini_X9, ⟨by decide, by decide, by decide +kernel⟩, by decide⟩
set_option maxRecDepth 10000 in
theorem im_X9_readFog : Cond.instanceMethod yX9_readFog ∈ tbw := in_tb (in_t4 (List.mem_of_getElem? (i := 82) rfl)) rfl
set_option maxRecDepth 10000 in
theorem se_X9_readFog : Cond.selects yX9_readFog.cls yX9_readFog yX9_readFog ∈ tbw := in_tb (in_p1 (i := 11) rfl) rfl
def M_X9_readWeight : MI := (yX9_readWeight, cX9_readWeight, 5, some (.boolean), [])
set_option maxRecDepth 10000 in
theorem mk_X9_readWeight : MOk M_X9_readWeight 1 := ⟨in_tb (in_t4 (List.mem_of_getElem? (i := 92) rfl)) rfl, rfl, ini_X9, ⟨by decide, by decide, by decide +kernel⟩, by decide⟩
set_option maxRecDepth 10000 in
theorem im_X9_readWeight : Cond.instanceMethod yX9_readWeight ∈ tbw := in_tb (in_t4 (List.mem_of_getElem? (i := 91) rfl)) rfl
set_option maxRecDepth 10000 in
theorem se_X9_readWeight : Cond.selects yX9_readWeight.cls yX9_readWeight yX9_readWeight ∈ tbw := in_tb (in_p1 (i := 12) rfl) rfl
def M_X9_readDrop : MI := (yX9_readDrop, cX9_readDrop, 3, some (.boolean), [])
set_option maxRecDepth 10000 in
theorem mk_X9_readDrop : MOk M_X9_readDrop 1 := ⟨in_tb (in_t4 (List.mem_of_getElem? (i := 98) rfl)) rfl, rfl, ini_X9, ⟨by decide, by decide, by decide +kernel⟩, by decide⟩
set_option maxRecDepth 10000 in
theorem im_X9_readDrop : Cond.instanceMethod yX9_readDrop ∈ tbw := in_tb (in_t4 (List.mem_of_getElem? (i := 97) rfl)) rfl
set_option maxRecDepth 10000 in
theorem se_X9_readDrop : Cond.selects yX9_readDrop.cls yX9_readDrop yX9_readDrop ∈ tbw := in_tb (in_p1 (i := 13) rfl) rfl
def M_X10_init : MI := (yX10_init, cX10_init, 3, none, [])
set_option maxRecDepth 10000 in
theorem mk_X10_init : MOk M_X10_init 2 := ⟨in_tb (in_t1 (List.mem_of_getElem? (i := 233) rfl)) rfl, rfl, ini_X10, ⟨by decide, by decide, by decide +kernel⟩, by decide⟩
set_option maxRecDepth 10000 in
theorem im_X10_init : Cond.instanceMethod yX10_init ∈ tbw := in_tb (in_t1 (List.mem_of_getElem? (i := 232) rfl)) rfl
def M_X10_begin : MI := (yX10_begin, cX10_begin, 2, none, [])
set_option maxRecDepth 10000 in
theorem mk_X10_begin : MOk M_X10_begin 1 := ⟨in_tb (in_t3 (List.mem_of_getElem? (i := 24) rfl)) rfl, rfl, ini_X10, ⟨by decide, by decide, by decide +kernel⟩, by decide⟩
set_option maxRecDepth 10000 in
theorem im_X10_begin : Cond.instanceMethod yX10_begin ∈ tbw := in_tb (in_t3 (List.mem_of_getElem? (i := 22) rfl)) rfl
set_option maxRecDepth 10000 in
theorem se_X10_begin : Cond.selects yX10_begin.cls yX10_begin yX10_begin ∈ tbw := in_tb (in_t3 (List.mem_of_getElem? (i := 23) rfl)) rfl
def M_X10_beginLawless : MI := (yX10_beginLawless, cX10_beginLawless, 1, none, [])
set_option maxRecDepth 10000 in
theorem mk_X10_beginLawless : MOk M_X10_beginLawless 0 := ⟨in_tb (in_t6 (List.mem_of_getElem? (i := 87) rfl)) rfl, rfl, ini_X10, ⟨by decide, by decide, by decide +kernel⟩, by decide⟩
set_option maxRecDepth 10000 in
theorem im_X10_beginLawless : Cond.instanceMethod yX10_beginLawless ∈ tbw := in_tb (in_t6 (List.mem_of_getElem? (i := 85) rfl)) rfl
set_option maxRecDepth 10000 in
theorem se_X10_beginLawless : Cond.selects yX10_beginLawless.cls yX10_beginLawless yX10_beginLawless ∈ tbw := in_tb (in_t6 (List.mem_of_getElem? (i := 86) rfl)) rfl
def M_X10_mayUse : MI := (yX10_mayUse, cX10_mayUse, 10, some (.boolean), [])
set_option maxRecDepth 10000 in
theorem mk_X10_mayUse : MOk M_X10_mayUse 4 := ⟨in_tb (in_t3 (List.mem_of_getElem? (i := 60) rfl)) rfl, rfl, ini_X10, ⟨by decide, by decide, by decide +kernel⟩, by decide⟩
set_option maxRecDepth 10000 in
theorem im_X10_mayUse : Cond.instanceMethod yX10_mayUse ∈ tbw := in_tb (in_t3 (List.mem_of_getElem? (i := 58) rfl)) rfl
set_option maxRecDepth 10000 in
theorem se_X10_mayUse : Cond.selects yX10_mayUse.cls yX10_mayUse yX10_mayUse ∈ tbw := in_tb (in_t3 (List.mem_of_getElem? (i := 59) rfl)) rfl
def M_X10_next : MI := (yX10_next, cX10_next, 5, some (.long), [])
set_option maxRecDepth 10000 in
theorem mk_X10_next : MOk M_X10_next 1 := ⟨in_tb (in_t6 (List.mem_of_getElem? (i := 0) rfl)) rfl, rfl, ini_X10, ⟨by decide, by decide, by decide +kernel⟩, by decide⟩
set_option maxRecDepth 10000 in
theorem im_X10_next : Cond.instanceMethod yX10_next ∈ tbw := in_tb (in_t5 (List.mem_of_getElem? (i := 238) rfl)) rfl
set_option maxRecDepth 10000 in
theorem se_X10_next : Cond.selects yX10_next.cls yX10_next yX10_next ∈ tbw := in_tb (in_t5 (List.mem_of_getElem? (i := 239) rfl)) rfl
def M_X10_isSettled : MI := (yX10_isSettled, cX10_isSettled, 3, some (.boolean), [])
set_option maxRecDepth 10000 in
theorem mk_X10_isSettled : MOk M_X10_isSettled 1 := ⟨in_tb (in_t6 (List.mem_of_getElem? (i := 55) rfl)) rfl, rfl, ini_X10, ⟨by decide, by decide, by decide +kernel⟩, by decide⟩
set_option maxRecDepth 10000 in
theorem im_X10_isSettled : Cond.instanceMethod yX10_isSettled ∈ tbw := in_tb (in_t6 (List.mem_of_getElem? (i := 53) rfl)) rfl
set_option maxRecDepth 10000 in
theorem se_X10_isSettled : Cond.selects yX10_isSettled.cls yX10_isSettled yX10_isSettled ∈ tbw := in_tb (in_t6 (List.mem_of_getElem? (i := 54) rfl)) rfl
def M_X10_settle : MI := (yX10_settle, cX10_settle, 14, some (.long), [])
set_option maxRecDepth 10000 in
theorem mk_X10_settle : MOk M_X10_settle 2 := ⟨in_tb (in_t3 (List.mem_of_getElem? (i := 51) rfl)) rfl, rfl, ini_X10, ⟨by decide, by decide, by decide +kernel⟩, by decide⟩
set_option maxRecDepth 10000 in
theorem im_X10_settle : Cond.instanceMethod yX10_settle ∈ tbw := in_tb (in_t3 (List.mem_of_getElem? (i := 49) rfl)) rfl
set_option maxRecDepth 10000 in
theorem se_X10_settle : Cond.selects yX10_settle.cls yX10_settle yX10_settle ∈ tbw := in_tb (in_t3 (List.mem_of_getElem? (i := 50) rfl)) rfl
def M_X10_goOn : MI := (yX10_goOn, cX10_goOn, 3, some (.boolean), [])
set_option maxRecDepth 10000 in
theorem mk_X10_goOn : MOk M_X10_goOn 1 := ⟨in_tb (in_t5 (List.mem_of_getElem? (i := 160) rfl)) rfl, rfl, ini_X10, ⟨by decide, by decide, by decide +kernel⟩, by decide⟩
set_option maxRecDepth 10000 in
theorem im_X10_goOn : Cond.instanceMethod yX10_goOn ∈ tbw := in_tb (in_t5 (List.mem_of_getElem? (i := 158) rfl)) rfl
set_option maxRecDepth 10000 in
theorem se_X10_goOn : Cond.selects yX10_goOn.cls yX10_goOn yX10_goOn ∈ tbw := in_tb (in_t5 (List.mem_of_getElem? (i := 159) rfl)) rfl
def M_X10_gather : MI := (yX10_gather, cX10_gather, 13, some (.int), [])
set_option maxRecDepth 10000 in
theorem mk_X10_gather : MOk M_X10_gather 2 := ⟨in_tb (in_t3 (List.mem_of_getElem? (i := 56) rfl)) rfl, rfl, ini_X10, ⟨by decide, by decide, by decide +kernel⟩, by decide⟩
set_option maxRecDepth 10000 in
theorem im_X10_gather : Cond.instanceMethod yX10_gather ∈ tbw := in_tb (in_t3 (List.mem_of_getElem? (i := 55) rfl)) rfl
set_option maxRecDepth 10000 in
theorem se_X10_gather : Cond.selects yX10_gather.cls yX10_gather yX10_gather ∈ tbw := in_tb (in_p1 (i := 0) rfl) rfl
def M_X10_after : MI := (yX10_after, cX10_after, 10, some (.long), [])
set_option maxRecDepth 10000 in
theorem mk_X10_after : MOk M_X10_after 3 := ⟨in_tb (in_t3 (List.mem_of_getElem? (i := 77) rfl)) rfl, rfl, ini_X10, ⟨by decide, by decide, by decide +kernel⟩, by decide⟩
set_option maxRecDepth 10000 in
theorem im_X10_after : Cond.instanceMethod yX10_after ∈ tbw := in_tb (in_t3 (List.mem_of_getElem? (i := 76) rfl)) rfl
set_option maxRecDepth 10000 in
theorem se_X10_after : Cond.selects yX10_after.cls yX10_after yX10_after ∈ tbw := in_tb (in_p1 (i := 1) rfl) rfl
def M_X10_turn : MI := (yX10_turn, cX10_turn, 3, none, [])
set_option maxRecDepth 10000 in
theorem mk_X10_turn : MOk M_X10_turn 2 := ⟨in_tb (in_t5 (List.mem_of_getElem? (i := 133) rfl)) rfl, rfl, ini_X10, ⟨by decide, by decide, by decide +kernel⟩, by decide⟩
set_option maxRecDepth 10000 in
theorem im_X10_turn : Cond.instanceMethod yX10_turn ∈ tbw := in_tb (in_t5 (List.mem_of_getElem? (i := 131) rfl)) rfl
set_option maxRecDepth 10000 in
theorem se_X10_turn : Cond.selects yX10_turn.cls yX10_turn yX10_turn ∈ tbw := in_tb (in_t5 (List.mem_of_getElem? (i := 132) rfl)) rfl
def M_X10_change : MI := (yX10_change, cX10_change, 10, none, [])
set_option maxRecDepth 10000 in
theorem mk_X10_change : MOk M_X10_change 2 := ⟨in_tb (in_t5 (List.mem_of_getElem? (i := 137) rfl)) rfl, rfl, ini_X10, ⟨by decide, by decide, by decide +kernel⟩, by decide⟩
set_option maxRecDepth 10000 in
theorem im_X10_change : Cond.instanceMethod yX10_change ∈ tbw := in_tb (in_t5 (List.mem_of_getElem? (i := 136) rfl)) rfl
set_option maxRecDepth 10000 in
theorem se_X10_change : Cond.selects yX10_change.cls yX10_change yX10_change ∈ tbw := in_tb (in_p2 (i := 9) rfl) rfl
def M_X10_keepMakers : MI := (yX10_keepMakers, cX10_keepMakers, 7, some (.int), [])
set_option maxRecDepth 10000 in
theorem mk_X10_keepMakers : MOk M_X10_keepMakers 4 := ⟨in_tb (in_t5 (List.mem_of_getElem? (i := 141) rfl)) rfl, rfl, ini_X10, ⟨by decide, by decide, by decide +kernel⟩, by decide⟩
set_option maxRecDepth 10000 in
theorem im_X10_keepMakers : Cond.instanceMethod yX10_keepMakers ∈ tbw := in_tb (in_t5 (List.mem_of_getElem? (i := 140) rfl)) rfl
set_option maxRecDepth 10000 in
theorem se_X10_keepMakers : Cond.selects yX10_keepMakers.cls yX10_keepMakers yX10_keepMakers ∈ tbw := in_tb (in_p2 (i := 10) rfl) rfl
def M_X10_noteMaker : MI := (yX10_noteMaker, cX10_noteMaker, 4, some (.int), [])
set_option maxRecDepth 10000 in
theorem mk_X10_noteMaker : MOk M_X10_noteMaker 3 := ⟨in_tb (in_t5 (List.mem_of_getElem? (i := 145) rfl)) rfl, rfl, ini_X10, ⟨by decide, by decide, by decide +kernel⟩, by decide⟩
set_option maxRecDepth 10000 in
theorem im_X10_noteMaker : Cond.instanceMethod yX10_noteMaker ∈ tbw := in_tb (in_t5 (List.mem_of_getElem? (i := 144) rfl)) rfl
set_option maxRecDepth 10000 in
theorem se_X10_noteMaker : Cond.selects yX10_noteMaker.cls yX10_noteMaker yX10_noteMaker ∈ tbw := in_tb (in_p2 (i := 11) rfl) rfl
def M_X10_listTurns : MI := (yX10_listTurns, cX10_listTurns, 7, some (.int), [])
set_option maxRecDepth 10000 in
theorem mk_X10_listTurns : MOk M_X10_listTurns 1 := ⟨in_tb (in_t5 (List.mem_of_getElem? (i := 208) rfl)) rfl, rfl, ini_X10, ⟨by decide, by decide, by decide +kernel⟩, by decide⟩
set_option maxRecDepth 10000 in
theorem im_X10_listTurns : Cond.instanceMethod yX10_listTurns ∈ tbw := in_tb (in_t5 (List.mem_of_getElem? (i := 206) rfl)) rfl
set_option maxRecDepth 10000 in
theorem se_X10_listTurns : Cond.selects yX10_listTurns.cls yX10_listTurns yX10_listTurns ∈ tbw := in_tb (in_t5 (List.mem_of_getElem? (i := 207) rfl)) rfl
def M_X10_afterTurn : MI := (yX10_afterTurn, cX10_afterTurn, 6, some (.long), [])
set_option maxRecDepth 10000 in
theorem mk_X10_afterTurn : MOk M_X10_afterTurn 2 := ⟨in_tb (in_t6 (List.mem_of_getElem? (i := 37) rfl)) rfl, rfl, ini_X10, ⟨by decide, by decide, by decide +kernel⟩, by decide⟩
set_option maxRecDepth 10000 in
theorem im_X10_afterTurn : Cond.instanceMethod yX10_afterTurn ∈ tbw := in_tb (in_t6 (List.mem_of_getElem? (i := 35) rfl)) rfl
set_option maxRecDepth 10000 in
theorem se_X10_afterTurn : Cond.selects yX10_afterTurn.cls yX10_afterTurn yX10_afterTurn ∈ tbw := in_tb (in_t6 (List.mem_of_getElem? (i := 36) rfl)) rfl
def M_X11_init : MI := (yX11_init, cX11_init, 2, none, [])
set_option maxRecDepth 10000 in
theorem mk_X11_init : MOk M_X11_init 0 := ⟨in_tb (in_t1 (List.mem_of_getElem? (i := 36) rfl)) rfl, rfl, ini_X11, ⟨by decide, by decide, by decide +kernel⟩, by decide⟩
set_option maxRecDepth 10000 in
theorem im_X11_init : Cond.instanceMethod yX11_init ∈ tbw := in_tb (in_t1 (List.mem_of_getElem? (i := 35) rfl)) rfl
def M_X11_feed : MI := (yX11_feed, cX11_feed, 6, some (.int), [])
set_option maxRecDepth 10000 in
theorem mk_X11_feed : MOk M_X11_feed 5 := ⟨in_tb (in_t3 (List.mem_of_getElem? (i := 4) rfl)) rfl, rfl, ini_X11, ⟨by decide, by decide, by decide +kernel⟩, by decide⟩
set_option maxRecDepth 10000 in
theorem im_X11_feed : Cond.instanceMethod yX11_feed ∈ tbw := in_tb (in_t3 (List.mem_of_getElem? (i := 2) rfl)) rfl
set_option maxRecDepth 10000 in
theorem se_X11_feed : Cond.selects yX11_feed.cls yX11_feed yX11_feed ∈ tbw := in_tb (in_t3 (List.mem_of_getElem? (i := 3) rfl)) rfl
def M_X11_end : MI := (yX11_end, cX11_end, 2, some (.boolean), [])
set_option maxRecDepth 10000 in
theorem mk_X11_end : MOk M_X11_end 1 := ⟨in_tb (in_t3 (List.mem_of_getElem? (i := 12) rfl)) rfl, rfl, ini_X11, ⟨by decide, by decide, by decide +kernel⟩, by decide⟩
set_option maxRecDepth 10000 in
theorem im_X11_end : Cond.instanceMethod yX11_end ∈ tbw := in_tb (in_t3 (List.mem_of_getElem? (i := 10) rfl)) rfl
set_option maxRecDepth 10000 in
theorem se_X11_end : Cond.selects yX11_end.cls yX11_end yX11_end ∈ tbw := in_tb (in_t3 (List.mem_of_getElem? (i := 11) rfl)) rfl
def M_X11_valley : MI := (yX11_valley, cX11_valley, 2, some (.int), [])
set_option maxRecDepth 10000 in
theorem mk_X11_valley : MOk M_X11_valley 0 := ⟨in_tb (in_t3 (List.mem_of_getElem? (i := 192) rfl)) rfl, rfl, ini_X11, ⟨by decide, by decide, by decide +kernel⟩, by decide⟩
set_option maxRecDepth 10000 in
theorem im_X11_valley : Cond.instanceMethod yX11_valley ∈ tbw := in_tb (in_t3 (List.mem_of_getElem? (i := 190) rfl)) rfl
set_option maxRecDepth 10000 in
theorem se_X11_valley : Cond.selects yX11_valley.cls yX11_valley yX11_valley ∈ tbw := in_tb (in_t3 (List.mem_of_getElem? (i := 191) rfl)) rfl
def M_X11_law : MI := (yX11_law, cX11_law, 2, some (.int), [])
set_option maxRecDepth 10000 in
theorem mk_X11_law : MOk M_X11_law 0 := ⟨in_tb (in_t4 (List.mem_of_getElem? (i := 194) rfl)) rfl, rfl, ini_X11, ⟨by decide, by decide, by decide +kernel⟩, by decide⟩
set_option maxRecDepth 10000 in
theorem im_X11_law : Cond.instanceMethod yX11_law ∈ tbw := in_tb (in_t4 (List.mem_of_getElem? (i := 192) rfl)) rfl
set_option maxRecDepth 10000 in
theorem se_X11_law : Cond.selects yX11_law.cls yX11_law yX11_law ∈ tbw := in_tb (in_t4 (List.mem_of_getElem? (i := 193) rfl)) rfl
def M_X11_fault : MI := (yX11_fault, cX11_fault, 1, some (.int), [])
set_option maxRecDepth 10000 in
theorem mk_X11_fault : MOk M_X11_fault 0 := ⟨in_tb (in_t3 (List.mem_of_getElem? (i := 16) rfl)) rfl, rfl, ini_X11, ⟨by decide, by decide, by decide +kernel⟩, by decide⟩
set_option maxRecDepth 10000 in
theorem im_X11_fault : Cond.instanceMethod yX11_fault ∈ tbw := in_tb (in_t3 (List.mem_of_getElem? (i := 14) rfl)) rfl
set_option maxRecDepth 10000 in
theorem se_X11_fault : Cond.selects yX11_fault.cls yX11_fault yX11_fault ∈ tbw := in_tb (in_t3 (List.mem_of_getElem? (i := 15) rfl)) rfl
def M_X11_rule : MI := (yX11_rule, cX11_rule, 3, some (.long), [])
set_option maxRecDepth 10000 in
theorem mk_X11_rule : MOk M_X11_rule 2 := ⟨in_tb (in_t5 (List.mem_of_getElem? (i := 7) rfl)) rfl, rfl, ini_X11, ⟨by decide, by decide, by decide +kernel⟩, by decide⟩
set_option maxRecDepth 10000 in
theorem im_X11_rule : Cond.instanceMethod yX11_rule ∈ tbw := in_tb (in_t5 (List.mem_of_getElem? (i := 5) rfl)) rfl
set_option maxRecDepth 10000 in
theorem se_X11_rule : Cond.selects yX11_rule.cls yX11_rule yX11_rule ∈ tbw := in_tb (in_t5 (List.mem_of_getElem? (i := 6) rfl)) rfl
def M_X11_field : MI := (yX11_field, cX11_field, 2, some (.long), [])
set_option maxRecDepth 10000 in
theorem mk_X11_field : MOk M_X11_field 1 := ⟨in_tb (in_t5 (List.mem_of_getElem? (i := 33) rfl)) rfl, rfl, ini_X11, ⟨by decide, by decide, by decide +kernel⟩, by decide⟩
set_option maxRecDepth 10000 in
theorem im_X11_field : Cond.instanceMethod yX11_field ∈ tbw := in_tb (in_t5 (List.mem_of_getElem? (i := 31) rfl)) rfl
set_option maxRecDepth 10000 in
theorem se_X11_field : Cond.selects yX11_field.cls yX11_field yX11_field ∈ tbw := in_tb (in_t5 (List.mem_of_getElem? (i := 32) rfl)) rfl
def M_X11_seen : MI := (yX11_seen, cX11_seen, 3, some (.long), [])
set_option maxRecDepth 10000 in
theorem mk_X11_seen : MOk M_X11_seen 2 := ⟨in_tb (in_t5 (List.mem_of_getElem? (i := 44) rfl)) rfl, rfl, ini_X11, ⟨by decide, by decide, by decide +kernel⟩, by decide⟩
set_option maxRecDepth 10000 in
theorem im_X11_seen : Cond.instanceMethod yX11_seen ∈ tbw := in_tb (in_t5 (List.mem_of_getElem? (i := 42) rfl)) rfl
set_option maxRecDepth 10000 in
theorem se_X11_seen : Cond.selects yX11_seen.cls yX11_seen yX11_seen ∈ tbw := in_tb (in_t5 (List.mem_of_getElem? (i := 43) rfl)) rfl
def M_X11_beast : MI := (yX11_beast, cX11_beast, 5, some (.int), [])
set_option maxRecDepth 10000 in
theorem mk_X11_beast : MOk M_X11_beast 2 := ⟨in_tb (in_t5 (List.mem_of_getElem? (i := 55) rfl)) rfl, rfl, ini_X11, ⟨by decide, by decide, by decide +kernel⟩, by decide⟩
set_option maxRecDepth 10000 in
theorem im_X11_beast : Cond.instanceMethod yX11_beast ∈ tbw := in_tb (in_t5 (List.mem_of_getElem? (i := 53) rfl)) rfl
set_option maxRecDepth 10000 in
theorem se_X11_beast : Cond.selects yX11_beast.cls yX11_beast yX11_beast ∈ tbw := in_tb (in_t5 (List.mem_of_getElem? (i := 54) rfl)) rfl
def M_X11_steps : MI := (yX11_steps, cX11_steps, 2, some (.int), [])
set_option maxRecDepth 10000 in
theorem mk_X11_steps : MOk M_X11_steps 1 := ⟨in_tb (in_t5 (List.mem_of_getElem? (i := 68) rfl)) rfl, rfl, ini_X11, ⟨by decide, by decide, by decide +kernel⟩, by decide⟩
set_option maxRecDepth 10000 in
theorem im_X11_steps : Cond.instanceMethod yX11_steps ∈ tbw := in_tb (in_t5 (List.mem_of_getElem? (i := 66) rfl)) rfl
set_option maxRecDepth 10000 in
theorem se_X11_steps : Cond.selects yX11_steps.cls yX11_steps yX11_steps ∈ tbw := in_tb (in_t5 (List.mem_of_getElem? (i := 67) rfl)) rfl
def M_X11_maker : MI := (yX11_maker, cX11_maker, 5, some (.int), [])
set_option maxRecDepth 10000 in
theorem mk_X11_maker : MOk M_X11_maker 3 := ⟨in_tb (in_t5 (List.mem_of_getElem? (i := 76) rfl)) rfl, rfl, ini_X11, ⟨by decide, by decide, by decide +kernel⟩, by decide⟩
set_option maxRecDepth 10000 in
theorem im_X11_maker : Cond.instanceMethod yX11_maker ∈ tbw := in_tb (in_t5 (List.mem_of_getElem? (i := 74) rfl)) rfl
set_option maxRecDepth 10000 in
theorem se_X11_maker : Cond.selects yX11_maker.cls yX11_maker yX11_maker ∈ tbw := in_tb (in_t5 (List.mem_of_getElem? (i := 75) rfl)) rfl
def M_X11_fits : MI := (yX11_fits, cX11_fits, 5, some (.boolean), [])
set_option maxRecDepth 10000 in
theorem mk_X11_fits : MOk M_X11_fits 3 := ⟨in_tb (in_t5 (List.mem_of_getElem? (i := 101) rfl)) rfl, rfl, ini_X11, ⟨by decide, by decide, by decide +kernel⟩, by decide⟩
set_option maxRecDepth 10000 in
theorem im_X11_fits : Cond.instanceMethod yX11_fits ∈ tbw := in_tb (in_t5 (List.mem_of_getElem? (i := 99) rfl)) rfl
set_option maxRecDepth 10000 in
theorem se_X11_fits : Cond.selects yX11_fits.cls yX11_fits yX11_fits ∈ tbw := in_tb (in_t5 (List.mem_of_getElem? (i := 100) rfl)) rfl
def M_X11_use : MI := (yX11_use, cX11_use, 5, some (.long), [])
set_option maxRecDepth 10000 in
theorem mk_X11_use : MOk M_X11_use 3 := ⟨in_tb (in_t5 (List.mem_of_getElem? (i := 110) rfl)) rfl, rfl, ini_X11, ⟨by decide, by decide, by decide +kernel⟩, by decide⟩
set_option maxRecDepth 10000 in
theorem im_X11_use : Cond.instanceMethod yX11_use ∈ tbw := in_tb (in_t5 (List.mem_of_getElem? (i := 108) rfl)) rfl
set_option maxRecDepth 10000 in
theorem se_X11_use : Cond.selects yX11_use.cls yX11_use yX11_use ∈ tbw := in_tb (in_t5 (List.mem_of_getElem? (i := 109) rfl)) rfl
def M_X11_run : MI := (yX11_run, cX11_run, 4, some (.int), [])
set_option maxRecDepth 10000 in
theorem mk_X11_run : MOk M_X11_run 2 := ⟨in_tb (in_t5 (List.mem_of_getElem? (i := 153) rfl)) rfl, rfl, ini_X11, ⟨by decide, by decide, by decide +kernel⟩, by decide⟩
set_option maxRecDepth 10000 in
theorem im_X11_run : Cond.instanceMethod yX11_run ∈ tbw := in_tb (in_t5 (List.mem_of_getElem? (i := 151) rfl)) rfl
set_option maxRecDepth 10000 in
theorem se_X11_run : Cond.selects yX11_run.cls yX11_run yX11_run ∈ tbw := in_tb (in_t5 (List.mem_of_getElem? (i := 152) rfl)) rfl
def M_X11_put : MI := (yX11_put, cX11_put, 6, some (.long), [])
set_option maxRecDepth 10000 in
theorem mk_X11_put : MOk M_X11_put 2 := ⟨in_tb (in_t5 (List.mem_of_getElem? (i := 167) rfl)) rfl, rfl, ini_X11, ⟨by decide, by decide, by decide +kernel⟩, by decide⟩
set_option maxRecDepth 10000 in
theorem im_X11_put : Cond.instanceMethod yX11_put ∈ tbw := in_tb (in_t5 (List.mem_of_getElem? (i := 165) rfl)) rfl
set_option maxRecDepth 10000 in
theorem se_X11_put : Cond.selects yX11_put.cls yX11_put yX11_put ∈ tbw := in_tb (in_t5 (List.mem_of_getElem? (i := 166) rfl)) rfl
def M_X11_add : MI := (yX11_add, cX11_add, 5, some (.int), [])
set_option maxRecDepth 10000 in
theorem mk_X11_add : MOk M_X11_add 2 := ⟨in_tb (in_t5 (List.mem_of_getElem? (i := 175) rfl)) rfl, rfl, ini_X11, ⟨by decide, by decide, by decide +kernel⟩, by decide⟩
set_option maxRecDepth 10000 in
theorem im_X11_add : Cond.instanceMethod yX11_add ∈ tbw := in_tb (in_t5 (List.mem_of_getElem? (i := 173) rfl)) rfl
set_option maxRecDepth 10000 in
theorem se_X11_add : Cond.selects yX11_add.cls yX11_add yX11_add ∈ tbw := in_tb (in_t5 (List.mem_of_getElem? (i := 174) rfl)) rfl
def M_X11_addRule : MI := (yX11_addRule, cX11_addRule, 5, some (.int), [])
set_option maxRecDepth 10000 in
theorem mk_X11_addRule : MOk M_X11_addRule 2 := ⟨in_tb (in_t5 (List.mem_of_getElem? (i := 179) rfl)) rfl, rfl, ini_X11, ⟨by decide, by decide, by decide +kernel⟩, by decide⟩
set_option maxRecDepth 10000 in
theorem im_X11_addRule : Cond.instanceMethod yX11_addRule ∈ tbw := in_tb (in_t5 (List.mem_of_getElem? (i := 178) rfl)) rfl
set_option maxRecDepth 10000 in
theorem se_X11_addRule : Cond.selects yX11_addRule.cls yX11_addRule yX11_addRule ∈ tbw := in_tb (in_p2 (i := 12) rfl) rfl
def M_X11_drop : MI := (yX11_drop, cX11_drop, 2, some (.int), [])
set_option maxRecDepth 10000 in
theorem mk_X11_drop : MOk M_X11_drop 1 := ⟨in_tb (in_t5 (List.mem_of_getElem? (i := 187) rfl)) rfl, rfl, ini_X11, ⟨by decide, by decide, by decide +kernel⟩, by decide⟩
set_option maxRecDepth 10000 in
theorem im_X11_drop : Cond.instanceMethod yX11_drop ∈ tbw := in_tb (in_t5 (List.mem_of_getElem? (i := 185) rfl)) rfl
set_option maxRecDepth 10000 in
theorem se_X11_drop : Cond.selects yX11_drop.cls yX11_drop yX11_drop ∈ tbw := in_tb (in_t5 (List.mem_of_getElem? (i := 186) rfl)) rfl
def M_X11_years : MI := (yX11_years, cX11_years, 5, some (.int), [])
set_option maxRecDepth 10000 in
theorem mk_X11_years : MOk M_X11_years 2 := ⟨in_tb (in_t5 (List.mem_of_getElem? (i := 195) rfl)) rfl, rfl, ini_X11, ⟨by decide, by decide, by decide +kernel⟩, by decide⟩
set_option maxRecDepth 10000 in
theorem im_X11_years : Cond.instanceMethod yX11_years ∈ tbw := in_tb (in_t5 (List.mem_of_getElem? (i := 193) rfl)) rfl
set_option maxRecDepth 10000 in
theorem se_X11_years : Cond.selects yX11_years.cls yX11_years yX11_years ∈ tbw := in_tb (in_t5 (List.mem_of_getElem? (i := 194) rfl)) rfl
def M_X11_goYear : MI := (yX11_goYear, cX11_goYear, 4, some (.boolean), [])
set_option maxRecDepth 10000 in
theorem mk_X11_goYear : MOk M_X11_goYear 1 := ⟨in_tb (in_t5 (List.mem_of_getElem? (i := 199) rfl)) rfl, rfl, ini_X11, ⟨by decide, by decide, by decide +kernel⟩, by decide⟩
set_option maxRecDepth 10000 in
theorem im_X11_goYear : Cond.instanceMethod yX11_goYear ∈ tbw := in_tb (in_t5 (List.mem_of_getElem? (i := 198) rfl)) rfl
set_option maxRecDepth 10000 in
theorem se_X11_goYear : Cond.selects yX11_goYear.cls yX11_goYear yX11_goYear ∈ tbw := in_tb (in_p2 (i := 13) rfl) rfl
def M_X11_settles : MI := (yX11_settles, cX11_settles, 7, some (.long), [])
set_option maxRecDepth 10000 in
theorem mk_X11_settles : MOk M_X11_settles 3 := ⟨in_tb (in_t5 (List.mem_of_getElem? (i := 215) rfl)) rfl, rfl, ini_X11, ⟨by decide, by decide, by decide +kernel⟩, by decide⟩
set_option maxRecDepth 10000 in
theorem im_X11_settles : Cond.instanceMethod yX11_settles ∈ tbw := in_tb (in_t5 (List.mem_of_getElem? (i := 213) rfl)) rfl
set_option maxRecDepth 10000 in
theorem se_X11_settles : Cond.selects yX11_settles.cls yX11_settles yX11_settles ∈ tbw := in_tb (in_t5 (List.mem_of_getElem? (i := 214) rfl)) rfl
def M_X11_again : MI := (yX11_again, cX11_again, 8, some (.int), [])
set_option maxRecDepth 10000 in
theorem mk_X11_again : MOk M_X11_again 2 := ⟨in_tb (in_t5 (List.mem_of_getElem? (i := 222) rfl)) rfl, rfl, ini_X11, ⟨by decide, by decide, by decide +kernel⟩, by decide⟩
set_option maxRecDepth 10000 in
theorem im_X11_again : Cond.instanceMethod yX11_again ∈ tbw := in_tb (in_t5 (List.mem_of_getElem? (i := 220) rfl)) rfl
set_option maxRecDepth 10000 in
theorem se_X11_again : Cond.selects yX11_again.cls yX11_again yX11_again ∈ tbw := in_tb (in_t5 (List.mem_of_getElem? (i := 221) rfl)) rfl
def M_X11_alike : MI := (yX11_alike, cX11_alike, 7, some (.boolean), [])
set_option maxRecDepth 10000 in
theorem mk_X11_alike : MOk M_X11_alike 2 := ⟨in_tb (in_t6 (List.mem_of_getElem? (i := 12) rfl)) rfl, rfl, ini_X11, ⟨by decide, by decide, by decide +kernel⟩, by decide⟩
set_option maxRecDepth 10000 in
theorem im_X11_alike : Cond.instanceMethod yX11_alike ∈ tbw := in_tb (in_t6 (List.mem_of_getElem? (i := 10) rfl)) rfl
set_option maxRecDepth 10000 in
theorem se_X11_alike : Cond.selects yX11_alike.cls yX11_alike yX11_alike ∈ tbw := in_tb (in_t6 (List.mem_of_getElem? (i := 11) rfl)) rfl
def M_X11_endless : MI := (yX11_endless, cX11_endless, 7, some (.long), [])
set_option maxRecDepth 10000 in
theorem mk_X11_endless : MOk M_X11_endless 0 := ⟨in_tb (in_t3 (List.mem_of_getElem? (i := 20) rfl)) rfl, rfl, ini_X11, ⟨by decide, by decide, by decide +kernel⟩, by decide⟩
set_option maxRecDepth 10000 in
theorem im_X11_endless : Cond.instanceMethod yX11_endless ∈ tbw := in_tb (in_t3 (List.mem_of_getElem? (i := 18) rfl)) rfl
set_option maxRecDepth 10000 in
theorem se_X11_endless : Cond.selects yX11_endless.cls yX11_endless yX11_endless ∈ tbw := in_tb (in_t3 (List.mem_of_getElem? (i := 19) rfl)) rfl
def M_X11_reckons : MI := (yX11_reckons, cX11_reckons, 3, some (.long), [])
set_option maxRecDepth 10000 in
theorem mk_X11_reckons : MOk M_X11_reckons 2 := ⟨in_tb (in_t6 (List.mem_of_getElem? (i := 209) rfl)) rfl, rfl, ini_X11, ⟨by decide, by decide, by decide +kernel⟩, by decide⟩
set_option maxRecDepth 10000 in
theorem im_X11_reckons : Cond.instanceMethod yX11_reckons ∈ tbw := in_tb (in_t6 (List.mem_of_getElem? (i := 207) rfl)) rfl
set_option maxRecDepth 10000 in
theorem se_X11_reckons : Cond.selects yX11_reckons.cls yX11_reckons yX11_reckons ∈ tbw := in_tb (in_t6 (List.mem_of_getElem? (i := 208) rfl)) rfl
def M_X11_reckonsSums : MI := (yX11_reckonsSums, cX11_reckonsSums, 6, some (.long), [])
set_option maxRecDepth 10000 in
theorem mk_X11_reckonsSums : MOk M_X11_reckonsSums 1 := ⟨in_tb (in_t6 (List.mem_of_getElem? (i := 213) rfl)) rfl, rfl, ini_X11, ⟨by decide, by decide, by decide +kernel⟩, by decide⟩
set_option maxRecDepth 10000 in
theorem im_X11_reckonsSums : Cond.instanceMethod yX11_reckonsSums ∈ tbw := in_tb (in_t6 (List.mem_of_getElem? (i := 212) rfl)) rfl
set_option maxRecDepth 10000 in
theorem se_X11_reckonsSums : Cond.selects yX11_reckonsSums.cls yX11_reckonsSums yX11_reckonsSums ∈ tbw := in_tb (in_p3 (i := 4) rfl) rfl
def M_X11_reckonsOrder : MI := (yX11_reckonsOrder, cX11_reckonsOrder, 6, some (.long), [])
set_option maxRecDepth 10000 in
theorem mk_X11_reckonsOrder : MOk M_X11_reckonsOrder 1 := ⟨in_tb (in_t6 (List.mem_of_getElem? (i := 222) rfl)) rfl, rfl, ini_X11, ⟨by decide, by decide, by decide +kernel⟩, by decide⟩
set_option maxRecDepth 10000 in
theorem im_X11_reckonsOrder : Cond.instanceMethod yX11_reckonsOrder ∈ tbw := in_tb (in_t6 (List.mem_of_getElem? (i := 221) rfl)) rfl
set_option maxRecDepth 10000 in
theorem se_X11_reckonsOrder : Cond.selects yX11_reckonsOrder.cls yX11_reckonsOrder yX11_reckonsOrder ∈ tbw := in_tb (in_p3 (i := 6) rfl) rfl
def M_X11_reckonsEach : MI := (yX11_reckonsEach, cX11_reckonsEach, 12, some (.long), [])
set_option maxRecDepth 10000 in
theorem mk_X11_reckonsEach : MOk M_X11_reckonsEach 2 := ⟨in_tb (in_t6 (List.mem_of_getElem? (i := 226) rfl)) rfl, rfl, ini_X11, ⟨by decide, by decide, by decide +kernel⟩, by decide⟩
set_option maxRecDepth 10000 in
theorem im_X11_reckonsEach : Cond.instanceMethod yX11_reckonsEach ∈ tbw := in_tb (in_t6 (List.mem_of_getElem? (i := 225) rfl)) rfl
set_option maxRecDepth 10000 in
theorem se_X11_reckonsEach : Cond.selects yX11_reckonsEach.cls yX11_reckonsEach yX11_reckonsEach ∈ tbw := in_tb (in_p3 (i := 7) rfl) rfl
def M_X11_settlesTo : MI := (yX11_settlesTo, cX11_settlesTo, 5, some (.boolean), [])
set_option maxRecDepth 10000 in
theorem mk_X11_settlesTo : MOk M_X11_settlesTo 2 := ⟨in_tb (in_t6 (List.mem_of_getElem? (i := 218) rfl)) rfl, rfl, ini_X11, ⟨by decide, by decide, by decide +kernel⟩, by decide⟩
set_option maxRecDepth 10000 in
theorem im_X11_settlesTo : Cond.instanceMethod yX11_settlesTo ∈ tbw := in_tb (in_t6 (List.mem_of_getElem? (i := 217) rfl)) rfl
set_option maxRecDepth 10000 in
theorem se_X11_settlesTo : Cond.selects yX11_settlesTo.cls yX11_settlesTo yX11_settlesTo ∈ tbw := in_tb (in_p3 (i := 5) rfl) rfl
def M_X11_dropped : MI := (yX11_dropped, cX11_dropped, 5, some (.int), [])
set_option maxRecDepth 10000 in
theorem mk_X11_dropped : MOk M_X11_dropped 1 := ⟨in_tb (in_t3 (List.mem_of_getElem? (i := 86) rfl)) rfl, rfl, ini_X11, ⟨by decide, by decide, by decide +kernel⟩, by decide⟩
set_option maxRecDepth 10000 in
theorem im_X11_dropped : Cond.instanceMethod yX11_dropped ∈ tbw := in_tb (in_t3 (List.mem_of_getElem? (i := 84) rfl)) rfl
set_option maxRecDepth 10000 in
theorem se_X11_dropped : Cond.selects yX11_dropped.cls yX11_dropped yX11_dropped ∈ tbw := in_tb (in_t3 (List.mem_of_getElem? (i := 85) rfl)) rfl
def M_X11_settlesWithout : MI := (yX11_settlesWithout, cX11_settlesWithout, 4, some (.boolean), [])
set_option maxRecDepth 10000 in
theorem mk_X11_settlesWithout : MOk M_X11_settlesWithout 2 := ⟨in_tb (in_t3 (List.mem_of_getElem? (i := 99) rfl)) rfl, rfl, ini_X11, ⟨by decide, by decide, by decide +kernel⟩, by decide⟩
set_option maxRecDepth 10000 in
theorem im_X11_settlesWithout : Cond.instanceMethod yX11_settlesWithout ∈ tbw := in_tb (in_t3 (List.mem_of_getElem? (i := 98) rfl)) rfl
set_option maxRecDepth 10000 in
theorem se_X11_settlesWithout : Cond.selects yX11_settlesWithout.cls yX11_settlesWithout yX11_settlesWithout ∈ tbw := in_tb (in_p1 (i := 2) rfl) rfl
def M_X11_becomes : MI := (yX11_becomes, cX11_becomes, 5, some (.long), [])
set_option maxRecDepth 10000 in
theorem mk_X11_becomes : MOk M_X11_becomes 3 := ⟨in_tb (in_t6 (List.mem_of_getElem? (i := 19) rfl)) rfl, rfl, ini_X11, ⟨by decide, by decide, by decide +kernel⟩, by decide⟩
set_option maxRecDepth 10000 in
theorem im_X11_becomes : Cond.instanceMethod yX11_becomes ∈ tbw := in_tb (in_t6 (List.mem_of_getElem? (i := 17) rfl)) rfl
set_option maxRecDepth 10000 in
theorem se_X11_becomes : Cond.selects yX11_becomes.cls yX11_becomes yX11_becomes ∈ tbw := in_tb (in_t6 (List.mem_of_getElem? (i := 18) rfl)) rfl
def M_X11_fewest : MI := (yX11_fewest, cX11_fewest, 6, some (.int), [])
set_option maxRecDepth 10000 in
theorem mk_X11_fewest : MOk M_X11_fewest 2 := ⟨in_tb (in_t6 (List.mem_of_getElem? (i := 67) rfl)) rfl, rfl, ini_X11, ⟨by decide, by decide, by decide +kernel⟩, by decide⟩
set_option maxRecDepth 10000 in
theorem im_X11_fewest : Cond.instanceMethod yX11_fewest ∈ tbw := in_tb (in_t6 (List.mem_of_getElem? (i := 65) rfl)) rfl
set_option maxRecDepth 10000 in
theorem se_X11_fewest : Cond.selects yX11_fewest.cls yX11_fewest yX11_fewest ∈ tbw := in_tb (in_t6 (List.mem_of_getElem? (i := 66) rfl)) rfl
def M_X11_meets : MI := (yX11_meets, cX11_meets, 13, some (.long), [])
set_option maxRecDepth 10000 in
theorem mk_X11_meets : MOk M_X11_meets 4 := ⟨in_tb (in_t6 (List.mem_of_getElem? (i := 76) rfl)) rfl, rfl, ini_X11, ⟨by decide, by decide, by decide +kernel⟩, by decide⟩
set_option maxRecDepth 10000 in
theorem im_X11_meets : Cond.instanceMethod yX11_meets ∈ tbw := in_tb (in_t6 (List.mem_of_getElem? (i := 74) rfl)) rfl
set_option maxRecDepth 10000 in
theorem se_X11_meets : Cond.selects yX11_meets.cls yX11_meets yX11_meets ∈ tbw := in_tb (in_t6 (List.mem_of_getElem? (i := 75) rfl)) rfl
def M_X11_drovers : MI := (yX11_drovers, cX11_drovers, 4, some (.int), [])
set_option maxRecDepth 10000 in
theorem mk_X11_drovers : MOk M_X11_drovers 2 := ⟨in_tb (in_t7 (List.mem_of_getElem? (i := 28) rfl)) rfl, rfl, ini_X11, ⟨by decide, by decide, by decide +kernel⟩, by decide⟩
set_option maxRecDepth 10000 in
theorem im_X11_drovers : Cond.instanceMethod yX11_drovers ∈ tbw := in_tb (in_t7 (List.mem_of_getElem? (i := 26) rfl)) rfl
set_option maxRecDepth 10000 in
theorem se_X11_drovers : Cond.selects yX11_drovers.cls yX11_drovers yX11_drovers ∈ tbw := in_tb (in_t7 (List.mem_of_getElem? (i := 27) rfl)) rfl
def M_X11_best : MI := (yX11_best, cX11_best, 4, some (.int), [])
set_option maxRecDepth 10000 in
theorem mk_X11_best : MOk M_X11_best 2 := ⟨in_tb (in_t7 (List.mem_of_getElem? (i := 52) rfl)) rfl, rfl, ini_X11, ⟨by decide, by decide, by decide +kernel⟩, by decide⟩
set_option maxRecDepth 10000 in
theorem im_X11_best : Cond.instanceMethod yX11_best ∈ tbw := in_tb (in_t7 (List.mem_of_getElem? (i := 50) rfl)) rfl
set_option maxRecDepth 10000 in
theorem se_X11_best : Cond.selects yX11_best.cls yX11_best yX11_best ∈ tbw := in_tb (in_t7 (List.mem_of_getElem? (i := 51) rfl)) rfl
def M_X11_play : MI := (yX11_play, cX11_play, 4, some (.boolean), [])
set_option maxRecDepth 10000 in
theorem mk_X11_play : MOk M_X11_play 2 := ⟨in_tb (in_t7 (List.mem_of_getElem? (i := 32) rfl)) rfl, rfl, ini_X11, ⟨by decide, by decide, by decide +kernel⟩, by decide⟩
set_option maxRecDepth 10000 in
theorem im_X11_play : Cond.instanceMethod yX11_play ∈ tbw := in_tb (in_t7 (List.mem_of_getElem? (i := 31) rfl)) rfl
set_option maxRecDepth 10000 in
theorem se_X11_play : Cond.selects yX11_play.cls yX11_play yX11_play ∈ tbw := in_tb (in_p3 (i := 9) rfl) rfl
def M_X11_overlaps : MI := (yX11_overlaps, cX11_overlaps, 2, some (.long), [])
set_option maxRecDepth 10000 in
theorem mk_X11_overlaps : MOk M_X11_overlaps 1 := ⟨in_tb (in_t6 (List.mem_of_getElem? (i := 83) rfl)) rfl, rfl, ini_X11, ⟨by decide, by decide, by decide +kernel⟩, by decide⟩
set_option maxRecDepth 10000 in
theorem im_X11_overlaps : Cond.instanceMethod yX11_overlaps ∈ tbw := in_tb (in_t6 (List.mem_of_getElem? (i := 81) rfl)) rfl
set_option maxRecDepth 10000 in
theorem se_X11_overlaps : Cond.selects yX11_overlaps.cls yX11_overlaps yX11_overlaps ∈ tbw := in_tb (in_t6 (List.mem_of_getElem? (i := 82) rfl)) rfl
def M_X11_complete : MI := (yX11_complete, cX11_complete, 1, some (.int), [])
set_option maxRecDepth 10000 in
theorem mk_X11_complete : MOk M_X11_complete 0 := ⟨in_tb (in_t6 (List.mem_of_getElem? (i := 117) rfl)) rfl, rfl, ini_X11, ⟨by decide, by decide, by decide +kernel⟩, by decide⟩
set_option maxRecDepth 10000 in
theorem im_X11_complete : Cond.instanceMethod yX11_complete ∈ tbw := in_tb (in_t6 (List.mem_of_getElem? (i := 115) rfl)) rfl
set_option maxRecDepth 10000 in
theorem se_X11_complete : Cond.selects yX11_complete.cls yX11_complete yX11_complete ∈ tbw := in_tb (in_t6 (List.mem_of_getElem? (i := 116) rfl)) rfl
def M_X11_never : MI := (yX11_never, cX11_never, 7, some (.int), [])
set_option maxRecDepth 10000 in
theorem mk_X11_never : MOk M_X11_never 3 := ⟨in_tb (in_t6 (List.mem_of_getElem? (i := 124) rfl)) rfl, rfl, ini_X11, ⟨by decide, by decide, by decide +kernel⟩, by decide⟩
set_option maxRecDepth 10000 in
theorem im_X11_never : Cond.instanceMethod yX11_never ∈ tbw := in_tb (in_t6 (List.mem_of_getElem? (i := 122) rfl)) rfl
set_option maxRecDepth 10000 in
theorem se_X11_never : Cond.selects yX11_never.cls yX11_never yX11_never ∈ tbw := in_tb (in_t6 (List.mem_of_getElem? (i := 123) rfl)) rfl
def M_X11_falls : MI := (yX11_falls, cX11_falls, 4, some (.int), [])
set_option maxRecDepth 10000 in
theorem mk_X11_falls : MOk M_X11_falls 2 := ⟨in_tb (in_t6 (List.mem_of_getElem? (i := 180) rfl)) rfl, rfl, ini_X11, ⟨by decide, by decide, by decide +kernel⟩, by decide⟩
set_option maxRecDepth 10000 in
theorem im_X11_falls : Cond.instanceMethod yX11_falls ∈ tbw := in_tb (in_t6 (List.mem_of_getElem? (i := 178) rfl)) rfl
set_option maxRecDepth 10000 in
theorem se_X11_falls : Cond.selects yX11_falls.cls yX11_falls yX11_falls ∈ tbw := in_tb (in_t6 (List.mem_of_getElem? (i := 179) rfl)) rfl
def M_X11_light : MI := (yX11_light, cX11_light, 3, some (.int), [])
set_option maxRecDepth 10000 in
theorem mk_X11_light : MOk M_X11_light 1 := ⟨in_tb (in_t6 (List.mem_of_getElem? (i := 191) rfl)) rfl, rfl, ini_X11, ⟨by decide, by decide, by decide +kernel⟩, by decide⟩
set_option maxRecDepth 10000 in
theorem im_X11_light : Cond.instanceMethod yX11_light ∈ tbw := in_tb (in_t6 (List.mem_of_getElem? (i := 189) rfl)) rfl
set_option maxRecDepth 10000 in
theorem se_X11_light : Cond.selects yX11_light.cls yX11_light yX11_light ∈ tbw := in_tb (in_t6 (List.mem_of_getElem? (i := 190) rfl)) rfl
def M_X11_loss : MI := (yX11_loss, cX11_loss, 2, some (.int), [])
set_option maxRecDepth 10000 in
theorem mk_X11_loss : MOk M_X11_loss 1 := ⟨in_tb (in_t6 (List.mem_of_getElem? (i := 202) rfl)) rfl, rfl, ini_X11, ⟨by decide, by decide, by decide +kernel⟩, by decide⟩
set_option maxRecDepth 10000 in
theorem im_X11_loss : Cond.instanceMethod yX11_loss ∈ tbw := in_tb (in_t6 (List.mem_of_getElem? (i := 200) rfl)) rfl
set_option maxRecDepth 10000 in
theorem se_X11_loss : Cond.selects yX11_loss.cls yX11_loss yX11_loss ∈ tbw := in_tb (in_t6 (List.mem_of_getElem? (i := 201) rfl)) rfl
def M_X11_explained : MI := (yX11_explained, cX11_explained, 2, some (.int), [])
set_option maxRecDepth 10000 in
theorem mk_X11_explained : MOk M_X11_explained 1 := ⟨in_tb (in_t6 (List.mem_of_getElem? (i := 233) rfl)) rfl, rfl, ini_X11, ⟨by decide, by decide, by decide +kernel⟩, by decide⟩
set_option maxRecDepth 10000 in
theorem im_X11_explained : Cond.instanceMethod yX11_explained ∈ tbw := in_tb (in_t6 (List.mem_of_getElem? (i := 231) rfl)) rfl
set_option maxRecDepth 10000 in
theorem se_X11_explained : Cond.selects yX11_explained.cls yX11_explained yX11_explained ∈ tbw := in_tb (in_t6 (List.mem_of_getElem? (i := 232) rfl)) rfl
def M_X11_telling : MI := (yX11_telling, cX11_telling, 1, some (.int), [])
set_option maxRecDepth 10000 in
theorem mk_X11_telling : MOk M_X11_telling 0 := ⟨in_tb (in_t3 (List.mem_of_getElem? (i := 103) rfl)) rfl, rfl, ini_X11, ⟨by decide, by decide, by decide +kernel⟩, by decide⟩
set_option maxRecDepth 10000 in
theorem im_X11_telling : Cond.instanceMethod yX11_telling ∈ tbw := in_tb (in_t3 (List.mem_of_getElem? (i := 101) rfl)) rfl
set_option maxRecDepth 10000 in
theorem se_X11_telling : Cond.selects yX11_telling.cls yX11_telling yX11_telling ∈ tbw := in_tb (in_t3 (List.mem_of_getElem? (i := 102) rfl)) rfl
def M_X11_guessed : MI := (yX11_guessed, cX11_guessed, 2, some (.long), [])
set_option maxRecDepth 10000 in
theorem mk_X11_guessed : MOk M_X11_guessed 1 := ⟨in_tb (in_t7 (List.mem_of_getElem? (i := 1) rfl)) rfl, rfl, ini_X11, ⟨by decide, by decide, by decide +kernel⟩, by decide⟩
set_option maxRecDepth 10000 in
theorem im_X11_guessed : Cond.instanceMethod yX11_guessed ∈ tbw := in_tb (in_t6 (List.mem_of_getElem? (i := 239) rfl)) rfl
set_option maxRecDepth 10000 in
theorem se_X11_guessed : Cond.selects yX11_guessed.cls yX11_guessed yX11_guessed ∈ tbw := in_tb (in_t7 (List.mem_of_getElem? (i := 0) rfl)) rfl
def M_X11_sorts : MI := (yX11_sorts, cX11_sorts, 3, some (.int), [])
set_option maxRecDepth 10000 in
theorem mk_X11_sorts : MOk M_X11_sorts 1 := ⟨in_tb (in_t7 (List.mem_of_getElem? (i := 59) rfl)) rfl, rfl, ini_X11, ⟨by decide, by decide, by decide +kernel⟩, by decide⟩
set_option maxRecDepth 10000 in
theorem im_X11_sorts : Cond.instanceMethod yX11_sorts ∈ tbw := in_tb (in_t7 (List.mem_of_getElem? (i := 57) rfl)) rfl
set_option maxRecDepth 10000 in
theorem se_X11_sorts : Cond.selects yX11_sorts.cls yX11_sorts yX11_sorts ∈ tbw := in_tb (in_t7 (List.mem_of_getElem? (i := 58) rfl)) rfl
def M_X11_seed : MI := (yX11_seed, cX11_seed, 3, some (.int), [])
set_option maxRecDepth 10000 in
theorem mk_X11_seed : MOk M_X11_seed 1 := ⟨in_tb (in_t3 (List.mem_of_getElem? (i := 128) rfl)) rfl, rfl, ini_X11, ⟨by decide, by decide, by decide +kernel⟩, by decide⟩
set_option maxRecDepth 10000 in
theorem im_X11_seed : Cond.instanceMethod yX11_seed ∈ tbw := in_tb (in_t3 (List.mem_of_getElem? (i := 126) rfl)) rfl
set_option maxRecDepth 10000 in
theorem se_X11_seed : Cond.selects yX11_seed.cls yX11_seed yX11_seed ∈ tbw := in_tb (in_t3 (List.mem_of_getElem? (i := 127) rfl)) rfl
def M_X11_undo : MI := (yX11_undo, cX11_undo, 1, some (.boolean), [])
set_option maxRecDepth 10000 in
theorem mk_X11_undo : MOk M_X11_undo 0 := ⟨in_tb (in_t3 (List.mem_of_getElem? (i := 132) rfl)) rfl, rfl, ini_X11, ⟨by decide, by decide, by decide +kernel⟩, by decide⟩
set_option maxRecDepth 10000 in
theorem im_X11_undo : Cond.instanceMethod yX11_undo ∈ tbw := in_tb (in_t3 (List.mem_of_getElem? (i := 130) rfl)) rfl
set_option maxRecDepth 10000 in
theorem se_X11_undo : Cond.selects yX11_undo.cls yX11_undo yX11_undo ∈ tbw := in_tb (in_t3 (List.mem_of_getElem? (i := 131) rfl)) rfl
def M_X11_image : MI := (yX11_image, cX11_image, 1, none, [])
set_option maxRecDepth 10000 in
theorem mk_X11_image : MOk M_X11_image 0 := ⟨in_tb (in_t3 (List.mem_of_getElem? (i := 157) rfl)) rfl, rfl, ini_X11, ⟨by decide, by decide, by decide +kernel⟩, by decide⟩
set_option maxRecDepth 10000 in
theorem im_X11_image : Cond.instanceMethod yX11_image ∈ tbw := in_tb (in_t3 (List.mem_of_getElem? (i := 155) rfl)) rfl
set_option maxRecDepth 10000 in
theorem se_X11_image : Cond.selects yX11_image.cls yX11_image yX11_image ∈ tbw := in_tb (in_t3 (List.mem_of_getElem? (i := 156) rfl)) rfl
def M_X11_back : MI := (yX11_back, cX11_back, 1, some (.boolean), [])
set_option maxRecDepth 10000 in
theorem mk_X11_back : MOk M_X11_back 0 := ⟨in_tb (in_t3 (List.mem_of_getElem? (i := 166) rfl)) rfl, rfl, ini_X11, ⟨by decide, by decide, by decide +kernel⟩, by decide⟩
set_option maxRecDepth 10000 in
theorem im_X11_back : Cond.instanceMethod yX11_back ∈ tbw := in_tb (in_t3 (List.mem_of_getElem? (i := 164) rfl)) rfl
set_option maxRecDepth 10000 in
theorem se_X11_back : Cond.selects yX11_back.cls yX11_back yX11_back ∈ tbw := in_tb (in_t3 (List.mem_of_getElem? (i := 165) rfl)) rfl
def M_X11_count : MI := (yX11_count, cX11_count, 2, some (.int), [])
set_option maxRecDepth 10000 in
theorem mk_X11_count : MOk M_X11_count 1 := ⟨in_tb (in_t3 (List.mem_of_getElem? (i := 174) rfl)) rfl, rfl, ini_X11, ⟨by decide, by decide, by decide +kernel⟩, by decide⟩
set_option maxRecDepth 10000 in
theorem im_X11_count : Cond.instanceMethod yX11_count ∈ tbw := in_tb (in_t3 (List.mem_of_getElem? (i := 172) rfl)) rfl
set_option maxRecDepth 10000 in
theorem se_X11_count : Cond.selects yX11_count.cls yX11_count yX11_count ∈ tbw := in_tb (in_t3 (List.mem_of_getElem? (i := 173) rfl)) rfl
def M_X11_remember : MI := (yX11_remember, cX11_remember, 1, none, [])
set_option maxRecDepth 10000 in
theorem mk_X11_remember : MOk M_X11_remember 0 := ⟨in_tb (in_t5 (List.mem_of_getElem? (i := 129) rfl)) rfl, rfl, ini_X11, ⟨by decide, by decide, by decide +kernel⟩, by decide⟩
set_option maxRecDepth 10000 in
theorem im_X11_remember : Cond.instanceMethod yX11_remember ∈ tbw := in_tb (in_t5 (List.mem_of_getElem? (i := 128) rfl)) rfl
set_option maxRecDepth 10000 in
theorem se_X11_remember : Cond.selects yX11_remember.cls yX11_remember yX11_remember ∈ tbw := in_tb (in_p2 (i := 8) rfl) rfl
def M_X11_forgetActs : MI := (yX11_forgetActs, cX11_forgetActs, 1, none, [])
set_option maxRecDepth 10000 in
theorem mk_X11_forgetActs : MOk M_X11_forgetActs 0 := ⟨in_tb (in_t3 (List.mem_of_getElem? (i := 170) rfl)) rfl, rfl, ini_X11, ⟨by decide, by decide, by decide +kernel⟩, by decide⟩
set_option maxRecDepth 10000 in
theorem im_X11_forgetActs : Cond.instanceMethod yX11_forgetActs ∈ tbw := in_tb (in_t3 (List.mem_of_getElem? (i := 169) rfl)) rfl
set_option maxRecDepth 10000 in
theorem se_X11_forgetActs : Cond.selects yX11_forgetActs.cls yX11_forgetActs yX11_forgetActs ∈ tbw := in_tb (in_p1 (i := 4) rfl) rfl
def M_X11_checkRule : MI := (yX11_checkRule, cX11_checkRule, 2, none, [])
set_option maxRecDepth 10000 in
theorem mk_X11_checkRule : MOk M_X11_checkRule 1 := ⟨in_tb (in_t5 (List.mem_of_getElem? (i := 11) rfl)) rfl, rfl, ini_X11, ⟨by decide, by decide, by decide +kernel⟩, by decide⟩
set_option maxRecDepth 10000 in
theorem im_X11_checkRule : Cond.instanceMethod yX11_checkRule ∈ tbw := in_tb (in_t5 (List.mem_of_getElem? (i := 10) rfl)) rfl
set_option maxRecDepth 10000 in
theorem se_X11_checkRule : Cond.selects yX11_checkRule.cls yX11_checkRule yX11_checkRule ∈ tbw := in_tb (in_p2 (i := 5) rfl) rfl
def M_X11_checkField : MI := (yX11_checkField, cX11_checkField, 2, none, [])
set_option maxRecDepth 10000 in
theorem mk_X11_checkField : MOk M_X11_checkField 1 := ⟨in_tb (in_t5 (List.mem_of_getElem? (i := 37) rfl)) rfl, rfl, ini_X11, ⟨by decide, by decide, by decide +kernel⟩, by decide⟩
set_option maxRecDepth 10000 in
theorem im_X11_checkField : Cond.instanceMethod yX11_checkField ∈ tbw := in_tb (in_t5 (List.mem_of_getElem? (i := 36) rfl)) rfl
set_option maxRecDepth 10000 in
theorem se_X11_checkField : Cond.selects yX11_checkField.cls yX11_checkField yX11_checkField ∈ tbw := in_tb (in_p2 (i := 6) rfl) rfl
def M_X11_checkSeen : MI := (yX11_checkSeen, cX11_checkSeen, 2, none, [])
set_option maxRecDepth 10000 in
theorem mk_X11_checkSeen : MOk M_X11_checkSeen 1 := ⟨in_tb (in_t5 (List.mem_of_getElem? (i := 48) rfl)) rfl, rfl, ini_X11, ⟨by decide, by decide, by decide +kernel⟩, by decide⟩
set_option maxRecDepth 10000 in
theorem im_X11_checkSeen : Cond.instanceMethod yX11_checkSeen ∈ tbw := in_tb (in_t5 (List.mem_of_getElem? (i := 47) rfl)) rfl
set_option maxRecDepth 10000 in
theorem se_X11_checkSeen : Cond.selects yX11_checkSeen.cls yX11_checkSeen yX11_checkSeen ∈ tbw := in_tb (in_p2 (i := 7) rfl) rfl
def M_X11_checkBeastOrNone : MI := (yX11_checkBeastOrNone, cX11_checkBeastOrNone, 1, none, [])
set_option maxRecDepth 10000 in
theorem mk_X11_checkBeastOrNone : MOk M_X11_checkBeastOrNone 1 := ⟨in_tb (in_t6 (List.mem_of_getElem? (i := 127) rfl)) rfl, rfl, ini_X11, ⟨by decide, by decide, by decide +kernel⟩, by decide⟩
set_option maxRecDepth 10000 in
theorem sm_X11_checkBeastOrNone : Cond.static yX11_checkBeastOrNone ∈ tbw := in_tb (in_t6 (List.mem_of_getElem? (i := 126) rfl)) rfl
def M_X11_checkCode : MI := (yX11_checkCode, cX11_checkCode, 2, none, [])
set_option maxRecDepth 10000 in
theorem mk_X11_checkCode : MOk M_X11_checkCode 1 := ⟨in_tb (in_t5 (List.mem_of_getElem? (i := 58) rfl)) rfl, rfl, ini_X11, ⟨by decide, by decide, by decide +kernel⟩, by decide⟩
set_option maxRecDepth 10000 in
theorem sm_X11_checkCode : Cond.static yX11_checkCode ∈ tbw := in_tb (in_t5 (List.mem_of_getElem? (i := 57) rfl)) rfl
def M_X11_checkNumber : MI := (yX11_checkNumber, cX11_checkNumber, 3, none, [])
set_option maxRecDepth 10000 in
theorem mk_X11_checkNumber : MOk M_X11_checkNumber 3 := ⟨in_tb (in_t5 (List.mem_of_getElem? (i := 156) rfl)) rfl, rfl, ini_X11, ⟨by decide, by decide, by decide +kernel⟩, by decide⟩
set_option maxRecDepth 10000 in
theorem sm_X11_checkNumber : Cond.static yX11_checkNumber ∈ tbw := in_tb (in_t5 (List.mem_of_getElem? (i := 155) rfl)) rfl
def M_X11_checkWhat : MI := (yX11_checkWhat, cX11_checkWhat, 2, none, [])
set_option maxRecDepth 10000 in
theorem mk_X11_checkWhat : MOk M_X11_checkWhat 2 := ⟨in_tb (in_t5 (List.mem_of_getElem? (i := 79) rfl)) rfl, rfl, ini_X11, ⟨by decide, by decide, by decide +kernel⟩, by decide⟩
set_option maxRecDepth 10000 in
theorem sm_X11_checkWhat : Cond.static yX11_checkWhat ∈ tbw := in_tb (in_t5 (List.mem_of_getElem? (i := 78) rfl)) rfl
def M_X11_isCode : MI := (yX11_isCode, cX11_isCode, 2, some (.boolean), [])
set_option maxRecDepth 10000 in
theorem mk_X11_isCode : MOk M_X11_isCode 1 := ⟨in_tb (in_t5 (List.mem_of_getElem? (i := 61) rfl)) rfl, rfl, ini_X11, ⟨by decide, by decide, by decide +kernel⟩, by decide⟩
set_option maxRecDepth 10000 in
theorem sm_X11_isCode : Cond.static yX11_isCode ∈ tbw := in_tb (in_t5 (List.mem_of_getElem? (i := 60) rfl)) rfl
def M_X11_sizeOf : MI := (yX11_sizeOf, cX11_sizeOf, 3, some (.int), [])
set_option maxRecDepth 10000 in
theorem mk_X11_sizeOf : MOk M_X11_sizeOf 1 := ⟨in_tb (in_t3 (List.mem_of_getElem? (i := 39) rfl)) rfl, rfl, ini_X11, ⟨by decide, by decide, by decide +kernel⟩, by decide⟩
set_option maxRecDepth 10000 in
theorem sm_X11_sizeOf : Cond.static yX11_sizeOf ∈ tbw := in_tb (in_t3 (List.mem_of_getElem? (i := 38) rfl)) rfl
def M_X11_figures : MI := (yX11_figures, cX11_figures, 1, some (.long), [])
set_option maxRecDepth 10000 in
theorem mk_X11_figures : MOk M_X11_figures 1 := ⟨in_tb (in_t3 (List.mem_of_getElem? (i := 46) rfl)) rfl, rfl, ini_X11, ⟨by decide, by decide, by decide +kernel⟩, by decide⟩
set_option maxRecDepth 10000 in
theorem sm_X11_figures : Cond.static yX11_figures ∈ tbw := in_tb (in_t3 (List.mem_of_getElem? (i := 45) rfl)) rfl
def M_X11_beastAt : MI := (yX11_beastAt, cX11_beastAt, 4, some (.int), [])
set_option maxRecDepth 10000 in
theorem mk_X11_beastAt : MOk M_X11_beastAt 3 := ⟨in_tb (in_t3 (List.mem_of_getElem? (i := 42) rfl)) rfl, rfl, ini_X11, ⟨by decide, by decide, by decide +kernel⟩, by decide⟩
set_option maxRecDepth 10000 in
theorem sm_X11_beastAt : Cond.static yX11_beastAt ∈ tbw := in_tb (in_t3 (List.mem_of_getElem? (i := 41) rfl)) rfl
def M_X11_kindsIn : MI := (yX11_kindsIn, cX11_kindsIn, 5, some (.int), [])
set_option maxRecDepth 10000 in
theorem mk_X11_kindsIn : MOk M_X11_kindsIn 1 := ⟨in_tb (in_t3 (List.mem_of_getElem? (i := 36) rfl)) rfl, rfl, ini_X11, ⟨by decide, by decide, by decide +kernel⟩, by decide⟩
set_option maxRecDepth 10000 in
theorem sm_X11_kindsIn : Cond.static yX11_kindsIn ∈ tbw := in_tb (in_t3 (List.mem_of_getElem? (i := 35) rfl)) rfl
def M_X11_withBeasts : MI := (yX11_withBeasts, cX11_withBeasts, 7, some (.long), [])
set_option maxRecDepth 10000 in
theorem mk_X11_withBeasts : MOk M_X11_withBeasts 3 := ⟨in_tb (in_t4 (List.mem_of_getElem? (i := 38) rfl)) rfl, rfl, ini_X11, ⟨by decide, by decide, by decide +kernel⟩, by decide⟩
set_option maxRecDepth 10000 in
theorem sm_X11_withBeasts : Cond.static yX11_withBeasts ∈ tbw := in_tb (in_t4 (List.mem_of_getElem? (i := 37) rfl)) rfl
def M_X11_withPart : MI := (yX11_withPart, cX11_withPart, 8, some (.long), [])
set_option maxRecDepth 10000 in
theorem mk_X11_withPart : MOk M_X11_withPart 5 := ⟨in_tb (in_t3 (List.mem_of_getElem? (i := 80) rfl)) rfl, rfl, ini_X11, ⟨by decide, by decide, by decide +kernel⟩, by decide⟩
set_option maxRecDepth 10000 in
theorem sm_X11_withPart : Cond.static yX11_withPart ∈ tbw := in_tb (in_t3 (List.mem_of_getElem? (i := 79) rfl)) rfl
def M_X11_standsIn : MI := (yX11_standsIn, cX11_standsIn, 8, some (.boolean), [])
set_option maxRecDepth 10000 in
theorem mk_X11_standsIn : MOk M_X11_standsIn 5 := ⟨in_tb (in_t3 (List.mem_of_getElem? (i := 63) rfl)) rfl, rfl, ini_X11, ⟨by decide, by decide, by decide +kernel⟩, by decide⟩
set_option maxRecDepth 10000 in
theorem sm_X11_standsIn : Cond.static yX11_standsIn ∈ tbw := in_tb (in_t3 (List.mem_of_getElem? (i := 62) rfl)) rfl
def M_X11_replaced : MI := (yX11_replaced, cX11_replaced, 12, some (.long), [])
set_option maxRecDepth 10000 in
theorem mk_X11_replaced : MOk M_X11_replaced 6 := ⟨in_tb (in_t3 (List.mem_of_getElem? (i := 118) rfl)) rfl, rfl, ini_X11, ⟨by decide, by decide, by decide +kernel⟩, by decide⟩
set_option maxRecDepth 10000 in
theorem sm_X11_replaced : Cond.static yX11_replaced ∈ tbw := in_tb (in_t3 (List.mem_of_getElem? (i := 117) rfl)) rfl
def M_X11_canBecome : MI := (yX11_canBecome, cX11_canBecome, 12, some (.boolean), [])
set_option maxRecDepth 10000 in
theorem mk_X11_canBecome : MOk M_X11_canBecome 4 := ⟨in_tb (in_t3 (List.mem_of_getElem? (i := 114) rfl)) rfl, rfl, ini_X11, ⟨by decide, by decide, by decide +kernel⟩, by decide⟩
set_option maxRecDepth 10000 in
theorem sm_X11_canBecome : Cond.static yX11_canBecome ∈ tbw := in_tb (in_t3 (List.mem_of_getElem? (i := 113) rfl)) rfl
def M_X12_thrown : MI := (yX12_thrown, cX12_thrown, 1, some (.int), [])
set_option maxRecDepth 10000 in
theorem mk_X12_thrown : MOk M_X12_thrown 0 := ⟨in_tb (in_t7 (List.mem_of_getElem? (i := 72) rfl)) rfl, rfl, ini_X12, ⟨by decide, by decide, by decide +kernel⟩, by decide⟩
set_option maxRecDepth 10000 in
theorem im_X12_thrown : Cond.instanceMethod yX12_thrown ∈ tbw := in_tb (in_t7 (List.mem_of_getElem? (i := 70) rfl)) rfl
set_option maxRecDepth 10000 in
theorem se_X12_thrown : Cond.selects yX12_thrown.cls yX12_thrown yX12_thrown ∈ tbw := in_tb (in_t7 (List.mem_of_getElem? (i := 71) rfl)) rfl
def M_X12_throwsIf : MI := (yX12_throwsIf, cX12_throwsIf, 3, some (.boolean), [])
set_option maxRecDepth 10000 in
theorem mk_X12_throwsIf : MOk M_X12_throwsIf 2 := ⟨in_tb (in_t8 (List.mem_of_getElem? (i := 188) rfl)) rfl, rfl, ini_X12, ⟨by decide, by decide, by decide +kernel⟩, by decide⟩
set_option maxRecDepth 10000 in
theorem im_X12_throwsIf : Cond.instanceMethod yX12_throwsIf ∈ tbw := in_tb (in_t8 (List.mem_of_getElem? (i := 187) rfl)) rfl
set_option maxRecDepth 10000 in
theorem se_X12_throwsIf : Cond.selects yX12_throwsIf.cls yX12_throwsIf yX12_throwsIf ∈ tbw := in_tb (in_p5 (i := 10) rfl) rfl
def M_X12_in : MI := (yX12_in, cX12_in, 3, some (.boolean), [])
set_option maxRecDepth 10000 in
theorem mk_X12_in : MOk M_X12_in 3 := ⟨in_tb (in_t8 (List.mem_of_getElem? (i := 203) rfl)) rfl, rfl, ini_X12, ⟨by decide, by decide, by decide +kernel⟩, by decide⟩
set_option maxRecDepth 10000 in
theorem sm_X12_in : Cond.static yX12_in ∈ tbw := in_tb (in_t8 (List.mem_of_getElem? (i := 202) rfl)) rfl
def M_X12_has : MI := (yX12_has, cX12_has, 2, some (.boolean), [])
set_option maxRecDepth 10000 in
theorem mk_X12_has : MOk M_X12_has 2 := ⟨in_tb (in_t9 (List.mem_of_getElem? (i := 30) rfl)) rfl, rfl, ini_X12, ⟨by decide, by decide, by decide +kernel⟩, by decide⟩
set_option maxRecDepth 10000 in
theorem sm_X12_has : Cond.static yX12_has ∈ tbw := in_tb (in_t9 (List.mem_of_getElem? (i := 29) rfl)) rfl
def M_X12_size : MI := (yX12_size, cX12_size, 2, some (.int), [])
set_option maxRecDepth 10000 in
theorem mk_X12_size : MOk M_X12_size 1 := ⟨in_tb (in_t8 (List.mem_of_getElem? (i := 125) rfl)) rfl, rfl, ini_X12, ⟨by decide, by decide, by decide +kernel⟩, by decide⟩
set_option maxRecDepth 10000 in
theorem sm_X12_size : Cond.static yX12_size ∈ tbw := in_tb (in_t8 (List.mem_of_getElem? (i := 124) rfl)) rfl
def M_X12_isCode : MI := (yX12_isCode, cX12_isCode, 2, some (.boolean), [])
set_option maxRecDepth 10000 in
theorem mk_X12_isCode : MOk M_X12_isCode 1 := ⟨in_tb (in_t8 (List.mem_of_getElem? (i := 239) rfl)) rfl, rfl, ini_X12, ⟨by decide, by decide, by decide +kernel⟩, by decide⟩
set_option maxRecDepth 10000 in
theorem sm_X12_isCode : Cond.static yX12_isCode ∈ tbw := in_tb (in_t8 (List.mem_of_getElem? (i := 238) rfl)) rfl
def M_X12_beastOf : MI := (yX12_beastOf, cX12_beastOf, 3, some (.int), [])
set_option maxRecDepth 10000 in
theorem mk_X12_beastOf : MOk M_X12_beastOf 2 := ⟨in_tb (in_t8 (List.mem_of_getElem? (i := 122) rfl)) rfl, rfl, ini_X12, ⟨by decide, by decide, by decide +kernel⟩, by decide⟩
set_option maxRecDepth 10000 in
theorem sm_X12_beastOf : Cond.static yX12_beastOf ∈ tbw := in_tb (in_t8 (List.mem_of_getElem? (i := 121) rfl)) rfl
def M_X12_ahead : MI := (yX12_ahead, cX12_ahead, 3, some (.long), [])
set_option maxRecDepth 10000 in
theorem mk_X12_ahead : MOk M_X12_ahead 2 := ⟨in_tb (in_t9 (List.mem_of_getElem? (i := 39) rfl)) rfl, rfl, ini_X12, ⟨by decide, by decide, by decide +kernel⟩, by decide⟩
set_option maxRecDepth 10000 in
theorem sm_X12_ahead : Cond.static yX12_ahead ∈ tbw := in_tb (in_t9 (List.mem_of_getElem? (i := 38) rfl)) rfl
def M_X12_behind : MI := (yX12_behind, cX12_behind, 5, some (.long), [])
set_option maxRecDepth 10000 in
theorem mk_X12_behind : MOk M_X12_behind 2 := ⟨in_tb (in_t9 (List.mem_of_getElem? (i := 36) rfl)) rfl, rfl, ini_X12, ⟨by decide, by decide, by decide +kernel⟩, by decide⟩
set_option maxRecDepth 10000 in
theorem sm_X12_behind : Cond.static yX12_behind ∈ tbw := in_tb (in_t9 (List.mem_of_getElem? (i := 35) rfl)) rfl
def M_X12_join : MI := (yX12_join, cX12_join, 5, some (.long), [])
set_option maxRecDepth 10000 in
theorem mk_X12_join : MOk M_X12_join 2 := ⟨in_tb (in_t9 (List.mem_of_getElem? (i := 78) rfl)) rfl, rfl, ini_X12, ⟨by decide, by decide, by decide +kernel⟩, by decide⟩
set_option maxRecDepth 10000 in
theorem sm_X12_join : Cond.static yX12_join ∈ tbw := in_tb (in_t9 (List.mem_of_getElem? (i := 77) rfl)) rfl
def M_X12_part : MI := (yX12_part, cX12_part, 4, some (.long), [])
set_option maxRecDepth 10000 in
theorem mk_X12_part : MOk M_X12_part 3 := ⟨in_tb (in_t9 (List.mem_of_getElem? (i := 33) rfl)) rfl, rfl, ini_X12, ⟨by decide, by decide, by decide +kernel⟩, by decide⟩
set_option maxRecDepth 10000 in
theorem sm_X12_part : Cond.static yX12_part ∈ tbw := in_tb (in_t9 (List.mem_of_getElem? (i := 32) rfl)) rfl
def M_X12_row : MI := (yX12_row, cX12_row, 5, some (.long), [])
set_option maxRecDepth 10000 in
theorem mk_X12_row : MOk M_X12_row 2 := ⟨in_tb (in_t10 (List.mem_of_getElem? (i := 56) rfl)) rfl, rfl, ini_X12, ⟨by decide, by decide, by decide +kernel⟩, by decide⟩
set_option maxRecDepth 10000 in
theorem sm_X12_row : Cond.static yX12_row ∈ tbw := in_tb (in_t10 (List.mem_of_getElem? (i := 55) rfl)) rfl
def M_X12_init : MI := (yX12_init, cX12_init, 2, none, [])
set_option maxRecDepth 10000 in
theorem mk_X12_init : MOk M_X12_init 0 := ⟨in_tb (in_t7 (List.mem_of_getElem? (i := 77) rfl)) rfl, rfl, ini_X12, ⟨by decide, by decide, by decide +kernel⟩, by decide⟩
set_option maxRecDepth 10000 in
theorem im_X12_init : Cond.instanceMethod yX12_init ∈ tbw := in_tb (in_t7 (List.mem_of_getElem? (i := 76) rfl)) rfl
def M_X12_image : MI := (yX12_image, cX12_image, 2, none, [])
set_option maxRecDepth 10000 in
theorem mk_X12_image : MOk M_X12_image 0 := ⟨in_tb (in_t7 (List.mem_of_getElem? (i := 236) rfl)) rfl, rfl, ini_X12, ⟨by decide, by decide, by decide +kernel⟩, by decide⟩
set_option maxRecDepth 10000 in
theorem im_X12_image : Cond.instanceMethod yX12_image ∈ tbw := in_tb (in_t7 (List.mem_of_getElem? (i := 234) rfl)) rfl
set_option maxRecDepth 10000 in
theorem se_X12_image : Cond.selects yX12_image.cls yX12_image yX12_image ∈ tbw := in_tb (in_t7 (List.mem_of_getElem? (i := 235) rfl)) rfl
def M_X12_back : MI := (yX12_back, cX12_back, 2, some (.boolean), [])
set_option maxRecDepth 10000 in
theorem mk_X12_back : MOk M_X12_back 0 := ⟨in_tb (in_t8 (List.mem_of_getElem? (i := 0) rfl)) rfl, rfl, ini_X12, ⟨by decide, by decide, by decide +kernel⟩, by decide⟩
set_option maxRecDepth 10000 in
theorem im_X12_back : Cond.instanceMethod yX12_back ∈ tbw := in_tb (in_t7 (List.mem_of_getElem? (i := 238) rfl)) rfl
set_option maxRecDepth 10000 in
theorem se_X12_back : Cond.selects yX12_back.cls yX12_back yX12_back ∈ tbw := in_tb (in_t7 (List.mem_of_getElem? (i := 239) rfl)) rfl
def M_X12_remembers : MI := (yX12_remembers, cX12_remembers, 2, none, [])
set_option maxRecDepth 10000 in
theorem mk_X12_remembers : MOk M_X12_remembers 0 := ⟨in_tb (in_t9 (List.mem_of_getElem? (i := 59) rfl)) rfl, rfl, ini_X12, ⟨by decide, by decide, by decide +kernel⟩, by decide⟩
set_option maxRecDepth 10000 in
theorem im_X12_remembers : Cond.instanceMethod yX12_remembers ∈ tbw := in_tb (in_t9 (List.mem_of_getElem? (i := 58) rfl)) rfl
set_option maxRecDepth 10000 in
theorem se_X12_remembers : Cond.selects yX12_remembers.cls yX12_remembers yX12_remembers ∈ tbw := in_tb (in_p6 (i := 8) rfl) rfl
def M_X12_undo : MI := (yX12_undo, cX12_undo, 2, some (.boolean), [])
set_option maxRecDepth 10000 in
theorem mk_X12_undo : MOk M_X12_undo 0 := ⟨in_tb (in_t8 (List.mem_of_getElem? (i := 4) rfl)) rfl, rfl, ini_X12, ⟨by decide, by decide, by decide +kernel⟩, by decide⟩
set_option maxRecDepth 10000 in
theorem im_X12_undo : Cond.instanceMethod yX12_undo ∈ tbw := in_tb (in_t8 (List.mem_of_getElem? (i := 2) rfl)) rfl
set_option maxRecDepth 10000 in
theorem se_X12_undo : Cond.selects yX12_undo.cls yX12_undo yX12_undo ∈ tbw := in_tb (in_t8 (List.mem_of_getElem? (i := 3) rfl)) rfl
def M_X12_rules : MI := (yX12_rules, cX12_rules, 1, some (.int), [])
set_option maxRecDepth 10000 in
theorem mk_X12_rules : MOk M_X12_rules 0 := ⟨in_tb (in_t8 (List.mem_of_getElem? (i := 63) rfl)) rfl, rfl, ini_X12, ⟨by decide, by decide, by decide +kernel⟩, by decide⟩
set_option maxRecDepth 10000 in
theorem im_X12_rules : Cond.instanceMethod yX12_rules ∈ tbw := in_tb (in_t8 (List.mem_of_getElem? (i := 62) rfl)) rfl
set_option maxRecDepth 10000 in
theorem se_X12_rules : Cond.selects yX12_rules.cls yX12_rules yX12_rules ∈ tbw := in_tb (in_p4 (i := 4) rfl) rfl
def M_X12_fields : MI := (yX12_fields, cX12_fields, 1, some (.int), [])
set_option maxRecDepth 10000 in
theorem mk_X12_fields : MOk M_X12_fields 0 := ⟨in_tb (in_t8 (List.mem_of_getElem? (i := 86) rfl)) rfl, rfl, ini_X12, ⟨by decide, by decide, by decide +kernel⟩, by decide⟩
set_option maxRecDepth 10000 in
theorem im_X12_fields : Cond.instanceMethod yX12_fields ∈ tbw := in_tb (in_t8 (List.mem_of_getElem? (i := 85) rfl)) rfl
set_option maxRecDepth 10000 in
theorem se_X12_fields : Cond.selects yX12_fields.cls yX12_fields yX12_fields ∈ tbw := in_tb (in_p4 (i := 9) rfl) rfl
def M_X12_codeAt : MI := (yX12_codeAt, cX12_codeAt, 2, some (.long), [])
set_option maxRecDepth 10000 in
theorem mk_X12_codeAt : MOk M_X12_codeAt 1 := ⟨in_tb (in_t8 (List.mem_of_getElem? (i := 227) rfl)) rfl, rfl, ini_X12, ⟨by decide, by decide, by decide +kernel⟩, by decide⟩
set_option maxRecDepth 10000 in
theorem im_X12_codeAt : Cond.instanceMethod yX12_codeAt ∈ tbw := in_tb (in_t8 (List.mem_of_getElem? (i := 226) rfl)) rfl
set_option maxRecDepth 10000 in
theorem se_X12_codeAt : Cond.selects yX12_codeAt.cls yX12_codeAt yX12_codeAt ∈ tbw := in_tb (in_p6 (i := 0) rfl) rfl
def M_X12_putsCode : MI := (yX12_putsCode, cX12_putsCode, 4, none, [])
set_option maxRecDepth 10000 in
theorem mk_X12_putsCode : MOk M_X12_putsCode 2 := ⟨in_tb (in_t8 (List.mem_of_getElem? (i := 97) rfl)) rfl, rfl, ini_X12, ⟨by decide, by decide, by decide +kernel⟩, by decide⟩
set_option maxRecDepth 10000 in
theorem im_X12_putsCode : Cond.instanceMethod yX12_putsCode ∈ tbw := in_tb (in_t8 (List.mem_of_getElem? (i := 96) rfl)) rfl
set_option maxRecDepth 10000 in
theorem se_X12_putsCode : Cond.selects yX12_putsCode.cls yX12_putsCode yX12_putsCode ∈ tbw := in_tb (in_p4 (i := 11) rfl) rfl
def M_X12_left : MI := (yX12_left, cX12_left, 2, some (.long), [])
set_option maxRecDepth 10000 in
theorem mk_X12_left : MOk M_X12_left 1 := ⟨in_tb (in_t8 (List.mem_of_getElem? (i := 211) rfl)) rfl, rfl, ini_X12, ⟨by decide, by decide, by decide +kernel⟩, by decide⟩
set_option maxRecDepth 10000 in
theorem im_X12_left : Cond.instanceMethod yX12_left ∈ tbw := in_tb (in_t8 (List.mem_of_getElem? (i := 210) rfl)) rfl
set_option maxRecDepth 10000 in
theorem se_X12_left : Cond.selects yX12_left.cls yX12_left yX12_left ∈ tbw := in_tb (in_p5 (i := 13) rfl) rfl
def M_X12_right : MI := (yX12_right, cX12_right, 2, some (.long), [])
set_option maxRecDepth 10000 in
theorem mk_X12_right : MOk M_X12_right 1 := ⟨in_tb (in_t8 (List.mem_of_getElem? (i := 207) rfl)) rfl, rfl, ini_X12, ⟨by decide, by decide, by decide +kernel⟩, by decide⟩
set_option maxRecDepth 10000 in
theorem im_X12_right : Cond.instanceMethod yX12_right ∈ tbw := in_tb (in_t8 (List.mem_of_getElem? (i := 206) rfl)) rfl
set_option maxRecDepth 10000 in
theorem se_X12_right : Cond.selects yX12_right.cls yX12_right yX12_right ∈ tbw := in_tb (in_p5 (i := 12) rfl) rfl
def M_X12_lefts : MI := (yX12_lefts, cX12_lefts, 2, some (.int), [])
set_option maxRecDepth 10000 in
theorem mk_X12_lefts : MOk M_X12_lefts 1 := ⟨in_tb (in_t9 (List.mem_of_getElem? (i := 23) rfl)) rfl, rfl, ini_X12, ⟨by decide, by decide, by decide +kernel⟩, by decide⟩
set_option maxRecDepth 10000 in
theorem im_X12_lefts : Cond.instanceMethod yX12_lefts ∈ tbw := in_tb (in_t9 (List.mem_of_getElem? (i := 22) rfl)) rfl
set_option maxRecDepth 10000 in
theorem se_X12_lefts : Cond.selects yX12_lefts.cls yX12_lefts yX12_lefts ∈ tbw := in_tb (in_p6 (i := 3) rfl) rfl
def M_X12_rights : MI := (yX12_rights, cX12_rights, 2, some (.int), [])
set_option maxRecDepth 10000 in
theorem mk_X12_rights : MOk M_X12_rights 1 := ⟨in_tb (in_t9 (List.mem_of_getElem? (i := 27) rfl)) rfl, rfl, ini_X12, ⟨by decide, by decide, by decide +kernel⟩, by decide⟩
set_option maxRecDepth 10000 in
theorem im_X12_rights : Cond.instanceMethod yX12_rights ∈ tbw := in_tb (in_t9 (List.mem_of_getElem? (i := 26) rfl)) rfl
set_option maxRecDepth 10000 in
theorem se_X12_rights : Cond.selects yX12_rights.cls yX12_rights yX12_rights ∈ tbw := in_tb (in_p6 (i := 4) rfl) rfl
def M_X12_at : MI := (yX12_at, cX12_at, 1, some (.int), [])
set_option maxRecDepth 10000 in
theorem mk_X12_at : MOk M_X12_at 1 := ⟨in_tb (in_t8 (List.mem_of_getElem? (i := 93) rfl)) rfl, rfl, ini_X12, ⟨by decide, by decide, by decide +kernel⟩, by decide⟩
set_option maxRecDepth 10000 in
theorem sm_X12_at : Cond.static yX12_at ∈ tbw := in_tb (in_t8 (List.mem_of_getElem? (i := 92) rfl)) rfl
def M_X12_meadow : MI := (yX12_meadow, cX12_meadow, 2, some (.long), [])
set_option maxRecDepth 10000 in
theorem mk_X12_meadow : MOk M_X12_meadow 1 := ⟨in_tb (in_t8 (List.mem_of_getElem? (i := 223) rfl)) rfl, rfl, ini_X12, ⟨by decide, by decide, by decide +kernel⟩, by decide⟩
set_option maxRecDepth 10000 in
theorem im_X12_meadow : Cond.instanceMethod yX12_meadow ∈ tbw := in_tb (in_t8 (List.mem_of_getElem? (i := 222) rfl)) rfl
set_option maxRecDepth 10000 in
theorem se_X12_meadow : Cond.selects yX12_meadow.cls yX12_meadow yX12_meadow ∈ tbw := in_tb (in_p5 (i := 15) rfl) rfl
def M_X12_noRule : MI := (yX12_noRule, cX12_noRule, 2, some (.boolean), [])
set_option maxRecDepth 10000 in
theorem mk_X12_noRule : MOk M_X12_noRule 1 := ⟨in_tb (in_t8 (List.mem_of_getElem? (i := 200) rfl)) rfl, rfl, ini_X12, ⟨by decide, by decide, by decide +kernel⟩, by decide⟩
set_option maxRecDepth 10000 in
theorem im_X12_noRule : Cond.instanceMethod yX12_noRule ∈ tbw := in_tb (in_t8 (List.mem_of_getElem? (i := 199) rfl)) rfl
set_option maxRecDepth 10000 in
theorem se_X12_noRule : Cond.selects yX12_noRule.cls yX12_noRule yX12_noRule ∈ tbw := in_tb (in_p5 (i := 11) rfl) rfl
def M_X12_noField : MI := (yX12_noField, cX12_noField, 2, some (.boolean), [])
set_option maxRecDepth 10000 in
theorem mk_X12_noField : MOk M_X12_noField 1 := ⟨in_tb (in_t8 (List.mem_of_getElem? (i := 219) rfl)) rfl, rfl, ini_X12, ⟨by decide, by decide, by decide +kernel⟩, by decide⟩
set_option maxRecDepth 10000 in
theorem im_X12_noField : Cond.instanceMethod yX12_noField ∈ tbw := in_tb (in_t8 (List.mem_of_getElem? (i := 218) rfl)) rfl
set_option maxRecDepth 10000 in
theorem se_X12_noField : Cond.selects yX12_noField.cls yX12_noField yX12_noField ∈ tbw := in_tb (in_p5 (i := 14) rfl) rfl
def M_X12_adds : MI := (yX12_adds, cX12_adds, 5, none, [])
set_option maxRecDepth 10000 in
theorem mk_X12_adds : MOk M_X12_adds 2 := ⟨in_tb (in_t8 (List.mem_of_getElem? (i := 77) rfl)) rfl, rfl, ini_X12, ⟨by decide, by decide, by decide +kernel⟩, by decide⟩
set_option maxRecDepth 10000 in
theorem im_X12_adds : Cond.instanceMethod yX12_adds ∈ tbw := in_tb (in_t8 (List.mem_of_getElem? (i := 76) rfl)) rfl
set_option maxRecDepth 10000 in
theorem se_X12_adds : Cond.selects yX12_adds.cls yX12_adds yX12_adds ∈ tbw := in_tb (in_p4 (i := 7) rfl) rfl
def M_X12_drops : MI := (yX12_drops, cX12_drops, 3, none, [])
set_option maxRecDepth 10000 in
theorem mk_X12_drops : MOk M_X12_drops 1 := ⟨in_tb (in_t8 (List.mem_of_getElem? (i := 138) rfl)) rfl, rfl, ini_X12, ⟨by decide, by decide, by decide +kernel⟩, by decide⟩
set_option maxRecDepth 10000 in
theorem im_X12_drops : Cond.instanceMethod yX12_drops ∈ tbw := in_tb (in_t8 (List.mem_of_getElem? (i := 137) rfl)) rfl
set_option maxRecDepth 10000 in
theorem se_X12_drops : Cond.selects yX12_drops.cls yX12_drops yX12_drops ∈ tbw := in_tb (in_p5 (i := 0) rfl) rfl
def M_X12_tells : MI := (yX12_tells, cX12_tells, 5, none, [])
set_option maxRecDepth 10000 in
theorem mk_X12_tells : MOk M_X12_tells 2 := ⟨in_tb (in_t8 (List.mem_of_getElem? (i := 90) rfl)) rfl, rfl, ini_X12, ⟨by decide, by decide, by decide +kernel⟩, by decide⟩
set_option maxRecDepth 10000 in
theorem im_X12_tells : Cond.instanceMethod yX12_tells ∈ tbw := in_tb (in_t8 (List.mem_of_getElem? (i := 89) rfl)) rfl
set_option maxRecDepth 10000 in
theorem se_X12_tells : Cond.selects yX12_tells.cls yX12_tells yX12_tells ∈ tbw := in_tb (in_p4 (i := 10) rfl) rfl
def M_X12_feed : MI := (yX12_feed, cX12_feed, 7, some (.int), [])
set_option maxRecDepth 10000 in
theorem mk_X12_feed : MOk M_X12_feed 5 := ⟨in_tb (in_t8 (List.mem_of_getElem? (i := 8) rfl)) rfl, rfl, ini_X12, ⟨by decide, by decide, by decide +kernel⟩, by decide⟩
set_option maxRecDepth 10000 in
theorem im_X12_feed : Cond.instanceMethod yX12_feed ∈ tbw := in_tb (in_t8 (List.mem_of_getElem? (i := 6) rfl)) rfl
set_option maxRecDepth 10000 in
theorem se_X12_feed : Cond.selects yX12_feed.cls yX12_feed yX12_feed ∈ tbw := in_tb (in_t8 (List.mem_of_getElem? (i := 7) rfl)) rfl
def M_X12_end : MI := (yX12_end, cX12_end, 2, some (.boolean), [])
set_option maxRecDepth 10000 in
theorem mk_X12_end : MOk M_X12_end 1 := ⟨in_tb (in_t8 (List.mem_of_getElem? (i := 12) rfl)) rfl, rfl, ini_X12, ⟨by decide, by decide, by decide +kernel⟩, by decide⟩
set_option maxRecDepth 10000 in
theorem im_X12_end : Cond.instanceMethod yX12_end ∈ tbw := in_tb (in_t8 (List.mem_of_getElem? (i := 10) rfl)) rfl
set_option maxRecDepth 10000 in
theorem se_X12_end : Cond.selects yX12_end.cls yX12_end yX12_end ∈ tbw := in_tb (in_t8 (List.mem_of_getElem? (i := 11) rfl)) rfl
def M_X12_isAt : MI := (yX12_isAt, cX12_isAt, 3, some (.boolean), [])
set_option maxRecDepth 10000 in
theorem mk_X12_isAt : MOk M_X12_isAt 2 := ⟨in_tb (in_t8 (List.mem_of_getElem? (i := 36) rfl)) rfl, rfl, ini_X12, ⟨by decide, by decide, by decide +kernel⟩, by decide⟩
set_option maxRecDepth 10000 in
theorem im_X12_isAt : Cond.instanceMethod yX12_isAt ∈ tbw := in_tb (in_t8 (List.mem_of_getElem? (i := 35) rfl)) rfl
set_option maxRecDepth 10000 in
theorem se_X12_isAt : Cond.selects yX12_isAt.cls yX12_isAt yX12_isAt ∈ tbw := in_tb (in_p3 (i := 14) rfl) rfl
def M_X12_blanks : MI := (yX12_blanks, cX12_blanks, 1, none, [])
set_option maxRecDepth 10000 in
theorem mk_X12_blanks : MOk M_X12_blanks 0 := ⟨in_tb (in_t8 (List.mem_of_getElem? (i := 32) rfl)) rfl, rfl, ini_X12, ⟨by decide, by decide, by decide +kernel⟩, by decide⟩
set_option maxRecDepth 10000 in
theorem im_X12_blanks : Cond.instanceMethod yX12_blanks ∈ tbw := in_tb (in_t8 (List.mem_of_getElem? (i := 31) rfl)) rfl
set_option maxRecDepth 10000 in
theorem se_X12_blanks : Cond.selects yX12_blanks.cls yX12_blanks yX12_blanks ∈ tbw := in_tb (in_p3 (i := 13) rfl) rfl
def M_X12_letters : MI := (yX12_letters, cX12_letters, 1, none, [])
set_option maxRecDepth 10000 in
theorem mk_X12_letters : MOk M_X12_letters 0 := ⟨in_tb (in_t8 (List.mem_of_getElem? (i := 44) rfl)) rfl, rfl, ini_X12, ⟨by decide, by decide, by decide +kernel⟩, by decide⟩
set_option maxRecDepth 10000 in
theorem im_X12_letters : Cond.instanceMethod yX12_letters ∈ tbw := in_tb (in_t8 (List.mem_of_getElem? (i := 43) rfl)) rfl
set_option maxRecDepth 10000 in
theorem se_X12_letters : Cond.selects yX12_letters.cls yX12_letters yX12_letters ∈ tbw := in_tb (in_p4 (i := 0) rfl) rfl
def M_X12_isWord : MI := (yX12_isWord, cX12_isWord, 4, some (.boolean), [])
set_option maxRecDepth 10000 in
theorem mk_X12_isWord : MOk M_X12_isWord 1 := ⟨in_tb (in_t8 (List.mem_of_getElem? (i := 53) rfl)) rfl, rfl, ini_X12, ⟨by decide, by decide, by decide +kernel⟩, by decide⟩
set_option maxRecDepth 10000 in
theorem im_X12_isWord : Cond.instanceMethod yX12_isWord ∈ tbw := in_tb (in_t8 (List.mem_of_getElem? (i := 52) rfl)) rfl
set_option maxRecDepth 10000 in
theorem se_X12_isWord : Cond.selects yX12_isWord.cls yX12_isWord yX12_isWord ∈ tbw := in_tb (in_p4 (i := 2) rfl) rfl
def M_X12_passes : MI := (yX12_passes, cX12_passes, 2, some (.boolean), [])
set_option maxRecDepth 10000 in
theorem mk_X12_passes : MOk M_X12_passes 1 := ⟨in_tb (in_t8 (List.mem_of_getElem? (i := 148) rfl)) rfl, rfl, ini_X12, ⟨by decide, by decide, by decide +kernel⟩, by decide⟩
set_option maxRecDepth 10000 in
theorem im_X12_passes : Cond.instanceMethod yX12_passes ∈ tbw := in_tb (in_t8 (List.mem_of_getElem? (i := 147) rfl)) rfl
set_option maxRecDepth 10000 in
theorem se_X12_passes : Cond.selects yX12_passes.cls yX12_passes yX12_passes ∈ tbw := in_tb (in_p5 (i := 2) rfl) rfl
def M_X12_needs : MI := (yX12_needs, cX12_needs, 2, some (.boolean), [])
set_option maxRecDepth 10000 in
theorem mk_X12_needs : MOk M_X12_needs 1 := ⟨in_tb (in_t8 (List.mem_of_getElem? (i := 73) rfl)) rfl, rfl, ini_X12, ⟨by decide, by decide, by decide +kernel⟩, by decide⟩
set_option maxRecDepth 10000 in
theorem im_X12_needs : Cond.instanceMethod yX12_needs ∈ tbw := in_tb (in_t8 (List.mem_of_getElem? (i := 72) rfl)) rfl
set_option maxRecDepth 10000 in
theorem se_X12_needs : Cond.selects yX12_needs.cls yX12_needs yX12_needs ∈ tbw := in_tb (in_p4 (i := 6) rfl) rfl
def M_X12_sign : MI := (yX12_sign, cX12_sign, 2, some (.boolean), [])
set_option maxRecDepth 10000 in
theorem mk_X12_sign : MOk M_X12_sign 1 := ⟨in_tb (in_t8 (List.mem_of_getElem? (i := 164) rfl)) rfl, rfl, ini_X12, ⟨by decide, by decide, by decide +kernel⟩, by decide⟩
set_option maxRecDepth 10000 in
theorem im_X12_sign : Cond.instanceMethod yX12_sign ∈ tbw := in_tb (in_t8 (List.mem_of_getElem? (i := 163) rfl)) rfl
set_option maxRecDepth 10000 in
theorem se_X12_sign : Cond.selects yX12_sign.cls yX12_sign yX12_sign ∈ tbw := in_tb (in_p5 (i := 6) rfl) rfl
def M_X12_number : MI := (yX12_number, cX12_number, 4, some (.int), [])
set_option maxRecDepth 10000 in
theorem mk_X12_number : MOk M_X12_number 2 := ⟨in_tb (in_t8 (List.mem_of_getElem? (i := 119) rfl)) rfl, rfl, ini_X12, ⟨by decide, by decide, by decide +kernel⟩, by decide⟩
set_option maxRecDepth 10000 in
theorem im_X12_number : Cond.instanceMethod yX12_number ∈ tbw := in_tb (in_t8 (List.mem_of_getElem? (i := 118) rfl)) rfl
set_option maxRecDepth 10000 in
theorem se_X12_number : Cond.selects yX12_number.cls yX12_number yX12_number ∈ tbw := in_tb (in_p4 (i := 15) rfl) rfl
def M_X12_beastsTold : MI := (yX12_beastsTold, cX12_beastsTold, 7, some (.long), [])
set_option maxRecDepth 10000 in
theorem mk_X12_beastsTold : MOk M_X12_beastsTold 2 := ⟨in_tb (in_t8 (List.mem_of_getElem? (i := 67) rfl)) rfl, rfl, ini_X12, ⟨by decide, by decide, by decide +kernel⟩, by decide⟩
set_option maxRecDepth 10000 in
theorem im_X12_beastsTold : Cond.instanceMethod yX12_beastsTold ∈ tbw := in_tb (in_t8 (List.mem_of_getElem? (i := 66) rfl)) rfl
set_option maxRecDepth 10000 in
theorem se_X12_beastsTold : Cond.selects yX12_beastsTold.cls yX12_beastsTold yX12_beastsTold ∈ tbw := in_tb (in_p4 (i := 5) rfl) rfl
def M_X12_fault : MI := (yX12_fault, cX12_fault, 1, some (.int), [])
set_option maxRecDepth 10000 in
theorem mk_X12_fault : MOk M_X12_fault 0 := ⟨in_tb (in_t8 (List.mem_of_getElem? (i := 16) rfl)) rfl, rfl, ini_X12, ⟨by decide, by decide, by decide +kernel⟩, by decide⟩
set_option maxRecDepth 10000 in
theorem im_X12_fault : Cond.instanceMethod yX12_fault ∈ tbw := in_tb (in_t8 (List.mem_of_getElem? (i := 14) rfl)) rfl
set_option maxRecDepth 10000 in
theorem se_X12_fault : Cond.selects yX12_fault.cls yX12_fault yX12_fault ∈ tbw := in_tb (in_t8 (List.mem_of_getElem? (i := 15) rfl)) rfl
def M_X12_uses : MI := (yX12_uses, cX12_uses, 1, none, [])
set_option maxRecDepth 10000 in
theorem mk_X12_uses : MOk M_X12_uses 0 := ⟨in_tb (in_t8 (List.mem_of_getElem? (i := 28) rfl)) rfl, rfl, ini_X12, ⟨by decide, by decide, by decide +kernel⟩, by decide⟩
set_option maxRecDepth 10000 in
theorem im_X12_uses : Cond.instanceMethod yX12_uses ∈ tbw := in_tb (in_t8 (List.mem_of_getElem? (i := 27) rfl)) rfl
set_option maxRecDepth 10000 in
theorem se_X12_uses : Cond.selects yX12_uses.cls yX12_uses yX12_uses ∈ tbw := in_tb (in_p3 (i := 12) rfl) rfl
def M_X12_readRule : MI := (yX12_readRule, cX12_readRule, 5, some (.boolean), [])
set_option maxRecDepth 10000 in
theorem mk_X12_readRule : MOk M_X12_readRule 0 := ⟨in_tb (in_t8 (List.mem_of_getElem? (i := 59) rfl)) rfl, rfl, ini_X12, ⟨by decide, by decide, by decide +kernel⟩, by decide⟩
set_option maxRecDepth 10000 in
theorem im_X12_readRule : Cond.instanceMethod yX12_readRule ∈ tbw := in_tb (in_t8 (List.mem_of_getElem? (i := 58) rfl)) rfl
set_option maxRecDepth 10000 in
theorem se_X12_readRule : Cond.selects yX12_readRule.cls yX12_readRule yX12_readRule ∈ tbw := in_tb (in_p4 (i := 3) rfl) rfl
def M_X12_readField : MI := (yX12_readField, cX12_readField, 3, some (.boolean), [])
set_option maxRecDepth 10000 in
theorem mk_X12_readField : MOk M_X12_readField 0 := ⟨in_tb (in_t8 (List.mem_of_getElem? (i := 82) rfl)) rfl, rfl, ini_X12, ⟨by decide, by decide, by decide +kernel⟩, by decide⟩
set_option maxRecDepth 10000 in
theorem im_X12_readField : Cond.instanceMethod yX12_readField ∈ tbw := in_tb (in_t8 (List.mem_of_getElem? (i := 81) rfl)) rfl
set_option maxRecDepth 10000 in
theorem se_X12_readField : Cond.selects yX12_readField.cls yX12_readField yX12_readField ∈ tbw := in_tb (in_p4 (i := 8) rfl) rfl
def M_X12_readSeen : MI := (yX12_readSeen, cX12_readSeen, 6, some (.boolean), [])
set_option maxRecDepth 10000 in
theorem mk_X12_readSeen : MOk M_X12_readSeen 0 := ⟨in_tb (in_t8 (List.mem_of_getElem? (i := 102) rfl)) rfl, rfl, ini_X12, ⟨by decide, by decide, by decide +kernel⟩, by decide⟩
set_option maxRecDepth 10000 in
theorem im_X12_readSeen : Cond.instanceMethod yX12_readSeen ∈ tbw := in_tb (in_t8 (List.mem_of_getElem? (i := 101) rfl)) rfl
set_option maxRecDepth 10000 in
theorem se_X12_readSeen : Cond.selects yX12_readSeen.cls yX12_readSeen yX12_readSeen ∈ tbw := in_tb (in_p4 (i := 12) rfl) rfl
def M_X12_readFirst : MI := (yX12_readFirst, cX12_readFirst, 2, some (.boolean), [])
set_option maxRecDepth 10000 in
theorem mk_X12_readFirst : MOk M_X12_readFirst 0 := ⟨in_tb (in_t8 (List.mem_of_getElem? (i := 107) rfl)) rfl, rfl, ini_X12, ⟨by decide, by decide, by decide +kernel⟩, by decide⟩
set_option maxRecDepth 10000 in
theorem im_X12_readFirst : Cond.instanceMethod yX12_readFirst ∈ tbw := in_tb (in_t8 (List.mem_of_getElem? (i := 106) rfl)) rfl
set_option maxRecDepth 10000 in
theorem se_X12_readFirst : Cond.selects yX12_readFirst.cls yX12_readFirst yX12_readFirst ∈ tbw := in_tb (in_p4 (i := 13) rfl) rfl
def M_X12_readWeight : MI := (yX12_readWeight, cX12_readWeight, 4, some (.boolean), [])
set_option maxRecDepth 10000 in
theorem mk_X12_readWeight : MOk M_X12_readWeight 0 := ⟨in_tb (in_t8 (List.mem_of_getElem? (i := 115) rfl)) rfl, rfl, ini_X12, ⟨by decide, by decide, by decide +kernel⟩, by decide⟩
set_option maxRecDepth 10000 in
theorem im_X12_readWeight : Cond.instanceMethod yX12_readWeight ∈ tbw := in_tb (in_t8 (List.mem_of_getElem? (i := 114) rfl)) rfl
set_option maxRecDepth 10000 in
theorem se_X12_readWeight : Cond.selects yX12_readWeight.cls yX12_readWeight yX12_readWeight ∈ tbw := in_tb (in_p4 (i := 14) rfl) rfl
def M_X12_readValleyLine : MI := (yX12_readValleyLine, cX12_readValleyLine, 2, some (.boolean), [])
set_option maxRecDepth 10000 in
theorem mk_X12_readValleyLine : MOk M_X12_readValleyLine 0 := ⟨in_tb (in_t8 (List.mem_of_getElem? (i := 48) rfl)) rfl, rfl, ini_X12, ⟨by decide, by decide, by decide +kernel⟩, by decide⟩
set_option maxRecDepth 10000 in
theorem im_X12_readValleyLine : Cond.instanceMethod yX12_readValleyLine ∈ tbw := in_tb (in_t8 (List.mem_of_getElem? (i := 47) rfl)) rfl
set_option maxRecDepth 10000 in
theorem se_X12_readValleyLine : Cond.selects yX12_readValleyLine.cls yX12_readValleyLine yX12_readValleyLine ∈ tbw := in_tb (in_p4 (i := 1) rfl) rfl
def M_X12_emits : MI := (yX12_emits, cX12_emits, 3, none, [])
set_option maxRecDepth 10000 in
theorem mk_X12_emits : MOk M_X12_emits 2 := ⟨in_tb (in_t8 (List.mem_of_getElem? (i := 169) rfl)) rfl, rfl, ini_X12, ⟨by decide, by decide, by decide +kernel⟩, by decide⟩
set_option maxRecDepth 10000 in
theorem im_X12_emits : Cond.instanceMethod yX12_emits ∈ tbw := in_tb (in_t8 (List.mem_of_getElem? (i := 168) rfl)) rfl
set_option maxRecDepth 10000 in
theorem se_X12_emits : Cond.selects yX12_emits.cls yX12_emits yX12_emits ∈ tbw := in_tb (in_p5 (i := 7) rfl) rfl
def M_X12_readPart : MI := (yX12_readPart, cX12_readPart, 2, some (.boolean), [])
set_option maxRecDepth 10000 in
theorem mk_X12_readPart : MOk M_X12_readPart 0 := ⟨in_tb (in_t8 (List.mem_of_getElem? (i := 178) rfl)) rfl, rfl, ini_X12, ⟨by decide, by decide, by decide +kernel⟩, by decide⟩
set_option maxRecDepth 10000 in
theorem im_X12_readPart : Cond.instanceMethod yX12_readPart ∈ tbw := in_tb (in_t8 (List.mem_of_getElem? (i := 177) rfl)) rfl
set_option maxRecDepth 10000 in
theorem se_X12_readPart : Cond.selects yX12_readPart.cls yX12_readPart yX12_readPart ∈ tbw := in_tb (in_p5 (i := 9) rfl) rfl
def M_X12_readSum : MI := (yX12_readSum, cX12_readSum, 1, some (.boolean), [])
set_option maxRecDepth 10000 in
theorem mk_X12_readSum : MOk M_X12_readSum 0 := ⟨in_tb (in_t8 (List.mem_of_getElem? (i := 174) rfl)) rfl, rfl, ini_X12, ⟨by decide, by decide, by decide +kernel⟩, by decide⟩
set_option maxRecDepth 10000 in
theorem im_X12_readSum : Cond.instanceMethod yX12_readSum ∈ tbw := in_tb (in_t8 (List.mem_of_getElem? (i := 173) rfl)) rfl
set_option maxRecDepth 10000 in
theorem se_X12_readSum : Cond.selects yX12_readSum.cls yX12_readSum yX12_readSum ∈ tbw := in_tb (in_p5 (i := 8) rfl) rfl
def M_X12_readAtom : MI := (yX12_readAtom, cX12_readAtom, 2, some (.boolean), [])
set_option maxRecDepth 10000 in
theorem mk_X12_readAtom : MOk M_X12_readAtom 0 := ⟨in_tb (in_t8 (List.mem_of_getElem? (i := 160) rfl)) rfl, rfl, ini_X12, ⟨by decide, by decide, by decide +kernel⟩, by decide⟩
set_option maxRecDepth 10000 in
theorem im_X12_readAtom : Cond.instanceMethod yX12_readAtom ∈ tbw := in_tb (in_t8 (List.mem_of_getElem? (i := 159) rfl)) rfl
set_option maxRecDepth 10000 in
theorem se_X12_readAtom : Cond.selects yX12_readAtom.cls yX12_readAtom yX12_readAtom ∈ tbw := in_tb (in_p5 (i := 5) rfl) rfl
def M_X12_readAllOf : MI := (yX12_readAllOf, cX12_readAllOf, 1, some (.boolean), [])
set_option maxRecDepth 10000 in
theorem mk_X12_readAllOf : MOk M_X12_readAllOf 0 := ⟨in_tb (in_t8 (List.mem_of_getElem? (i := 156) rfl)) rfl, rfl, ini_X12, ⟨by decide, by decide, by decide +kernel⟩, by decide⟩
set_option maxRecDepth 10000 in
theorem im_X12_readAllOf : Cond.instanceMethod yX12_readAllOf ∈ tbw := in_tb (in_t8 (List.mem_of_getElem? (i := 155) rfl)) rfl
set_option maxRecDepth 10000 in
theorem se_X12_readAllOf : Cond.selects yX12_readAllOf.cls yX12_readAllOf yX12_readAllOf ∈ tbw := in_tb (in_p5 (i := 4) rfl) rfl
def M_X12_readCond : MI := (yX12_readCond, cX12_readCond, 1, some (.boolean), [])
set_option maxRecDepth 10000 in
theorem mk_X12_readCond : MOk M_X12_readCond 0 := ⟨in_tb (in_t8 (List.mem_of_getElem? (i := 152) rfl)) rfl, rfl, ini_X12, ⟨by decide, by decide, by decide +kernel⟩, by decide⟩
set_option maxRecDepth 10000 in
theorem im_X12_readCond : Cond.instanceMethod yX12_readCond ∈ tbw := in_tb (in_t8 (List.mem_of_getElem? (i := 151) rfl)) rfl
set_option maxRecDepth 10000 in
theorem se_X12_readCond : Cond.selects yX12_readCond.cls yX12_readCond yX12_readCond ∈ tbw := in_tb (in_p5 (i := 3) rfl) rfl
def M_X12_readLawLine : MI := (yX12_readLawLine, cX12_readLawLine, 3, some (.boolean), [])
set_option maxRecDepth 10000 in
theorem mk_X12_readLawLine : MOk M_X12_readLawLine 1 := ⟨in_tb (in_t8 (List.mem_of_getElem? (i := 142) rfl)) rfl, rfl, ini_X12, ⟨by decide, by decide, by decide +kernel⟩, by decide⟩
set_option maxRecDepth 10000 in
theorem im_X12_readLawLine : Cond.instanceMethod yX12_readLawLine ∈ tbw := in_tb (in_t8 (List.mem_of_getElem? (i := 141) rfl)) rfl
set_option maxRecDepth 10000 in
theorem se_X12_readLawLine : Cond.selects yX12_readLawLine.cls yX12_readLawLine yX12_readLawLine ∈ tbw := in_tb (in_p5 (i := 1) rfl) rfl
def M_X12_readLine : MI := (yX12_readLine, cX12_readLine, 3, some (.boolean), [])
set_option maxRecDepth 10000 in
theorem mk_X12_readLine : MOk M_X12_readLine 2 := ⟨in_tb (in_t8 (List.mem_of_getElem? (i := 40) rfl)) rfl, rfl, ini_X12, ⟨by decide, by decide, by decide +kernel⟩, by decide⟩
set_option maxRecDepth 10000 in
theorem im_X12_readLine : Cond.instanceMethod yX12_readLine ∈ tbw := in_tb (in_t8 (List.mem_of_getElem? (i := 39) rfl)) rfl
set_option maxRecDepth 10000 in
theorem se_X12_readLine : Cond.selects yX12_readLine.cls yX12_readLine yX12_readLine ∈ tbw := in_tb (in_p3 (i := 15) rfl) rfl
def M_X12_readAll : MI := (yX12_readAll, cX12_readAll, 3, some (.int), [])
set_option maxRecDepth 10000 in
theorem mk_X12_readAll : MOk M_X12_readAll 1 := ⟨in_tb (in_t8 (List.mem_of_getElem? (i := 24) rfl)) rfl, rfl, ini_X12, ⟨by decide, by decide, by decide +kernel⟩, by decide⟩
set_option maxRecDepth 10000 in
theorem im_X12_readAll : Cond.instanceMethod yX12_readAll ∈ tbw := in_tb (in_t8 (List.mem_of_getElem? (i := 23) rfl)) rfl
set_option maxRecDepth 10000 in
theorem se_X12_readAll : Cond.selects yX12_readAll.cls yX12_readAll yX12_readAll ∈ tbw := in_tb (in_p3 (i := 11) rfl) rfl
def M_X12_valley : MI := (yX12_valley, cX12_valley, 3, some (.int), [])
set_option maxRecDepth 10000 in
theorem mk_X12_valley : MOk M_X12_valley 0 := ⟨in_tb (in_t8 (List.mem_of_getElem? (i := 20) rfl)) rfl, rfl, ini_X12, ⟨by decide, by decide, by decide +kernel⟩, by decide⟩
set_option maxRecDepth 10000 in
theorem im_X12_valley : Cond.instanceMethod yX12_valley ∈ tbw := in_tb (in_t8 (List.mem_of_getElem? (i := 18) rfl)) rfl
set_option maxRecDepth 10000 in
theorem se_X12_valley : Cond.selects yX12_valley.cls yX12_valley yX12_valley ∈ tbw := in_tb (in_t8 (List.mem_of_getElem? (i := 19) rfl)) rfl
def M_X12_law : MI := (yX12_law, cX12_law, 3, some (.int), [])
set_option maxRecDepth 10000 in
theorem mk_X12_law : MOk M_X12_law 0 := ⟨in_tb (in_t8 (List.mem_of_getElem? (i := 192) rfl)) rfl, rfl, ini_X12, ⟨by decide, by decide, by decide +kernel⟩, by decide⟩
set_option maxRecDepth 10000 in
theorem im_X12_law : Cond.instanceMethod yX12_law ∈ tbw := in_tb (in_t8 (List.mem_of_getElem? (i := 190) rfl)) rfl
set_option maxRecDepth 10000 in
theorem se_X12_law : Cond.selects yX12_law.cls yX12_law yX12_law ∈ tbw := in_tb (in_t8 (List.mem_of_getElem? (i := 191) rfl)) rfl
def M_X12_asTold : MI := (yX12_asTold, cX12_asTold, 1, none, [])
set_option maxRecDepth 10000 in
theorem mk_X12_asTold : MOk M_X12_asTold 0 := ⟨in_tb (in_t9 (List.mem_of_getElem? (i := 15) rfl)) rfl, rfl, ini_X12, ⟨by decide, by decide, by decide +kernel⟩, by decide⟩
set_option maxRecDepth 10000 in
theorem im_X12_asTold : Cond.instanceMethod yX12_asTold ∈ tbw := in_tb (in_t9 (List.mem_of_getElem? (i := 14) rfl)) rfl
set_option maxRecDepth 10000 in
theorem se_X12_asTold : Cond.selects yX12_asTold.cls yX12_asTold yX12_asTold ∈ tbw := in_tb (in_p6 (i := 1) rfl) rfl
def M_X12_factOf : MI := (yX12_factOf, cX12_factOf, 7, some (.int), [])
set_option maxRecDepth 10000 in
theorem mk_X12_factOf : MOk M_X12_factOf 5 := ⟨in_tb (in_t9 (List.mem_of_getElem? (i := 51) rfl)) rfl, rfl, ini_X12, ⟨by decide, by decide, by decide +kernel⟩, by decide⟩
set_option maxRecDepth 10000 in
theorem im_X12_factOf : Cond.instanceMethod yX12_factOf ∈ tbw := in_tb (in_t9 (List.mem_of_getElem? (i := 50) rfl)) rfl
set_option maxRecDepth 10000 in
theorem se_X12_factOf : Cond.selects yX12_factOf.cls yX12_factOf yX12_factOf ∈ tbw := in_tb (in_p6 (i := 7) rfl) rfl
def M_X12_holdsLine : MI := (yX12_holdsLine, cX12_holdsLine, 12, some (.boolean), [])
set_option maxRecDepth 10000 in
theorem mk_X12_holdsLine : MOk M_X12_holdsLine 4 := ⟨in_tb (in_t9 (List.mem_of_getElem? (i := 47) rfl)) rfl, rfl, ini_X12, ⟨by decide, by decide, by decide +kernel⟩, by decide⟩
set_option maxRecDepth 10000 in
theorem im_X12_holdsLine : Cond.instanceMethod yX12_holdsLine ∈ tbw := in_tb (in_t9 (List.mem_of_getElem? (i := 46) rfl)) rfl
set_option maxRecDepth 10000 in
theorem se_X12_holdsLine : Cond.selects yX12_holdsLine.cls yX12_holdsLine yX12_holdsLine ∈ tbw := in_tb (in_p6 (i := 6) rfl) rfl
def M_X12_isBarred : MI := (yX12_isBarred, cX12_isBarred, 6, some (.boolean), [])
set_option maxRecDepth 10000 in
theorem mk_X12_isBarred : MOk M_X12_isBarred 3 := ⟨in_tb (in_t9 (List.mem_of_getElem? (i := 43) rfl)) rfl, rfl, ini_X12, ⟨by decide, by decide, by decide +kernel⟩, by decide⟩
set_option maxRecDepth 10000 in
theorem im_X12_isBarred : Cond.instanceMethod yX12_isBarred ∈ tbw := in_tb (in_t9 (List.mem_of_getElem? (i := 42) rfl)) rfl
set_option maxRecDepth 10000 in
theorem se_X12_isBarred : Cond.selects yX12_isBarred.cls yX12_isBarred yX12_isBarred ∈ tbw := in_tb (in_p6 (i := 5) rfl) rfl
def M_X12_isFit : MI := (yX12_isFit, cX12_isFit, 6, some (.boolean), [])
set_option maxRecDepth 10000 in
theorem mk_X12_isFit : MOk M_X12_isFit 3 := ⟨in_tb (in_t9 (List.mem_of_getElem? (i := 19) rfl)) rfl, rfl, ini_X12, ⟨by decide, by decide, by decide +kernel⟩, by decide⟩
set_option maxRecDepth 10000 in
theorem im_X12_isFit : Cond.instanceMethod yX12_isFit ∈ tbw := in_tb (in_t9 (List.mem_of_getElem? (i := 18) rfl)) rfl
set_option maxRecDepth 10000 in
theorem se_X12_isFit : Cond.selects yX12_isFit.cls yX12_isFit yX12_isFit ∈ tbw := in_tb (in_p6 (i := 2) rfl) rfl
def M_X12_used : MI := (yX12_used, cX12_used, 5, some (.long), [])
set_option maxRecDepth 10000 in
theorem mk_X12_used : MOk M_X12_used 3 := ⟨in_tb (in_t9 (List.mem_of_getElem? (i := 75) rfl)) rfl, rfl, ini_X12, ⟨by decide, by decide, by decide +kernel⟩, by decide⟩
set_option maxRecDepth 10000 in
theorem im_X12_used : Cond.instanceMethod yX12_used ∈ tbw := in_tb (in_t9 (List.mem_of_getElem? (i := 74) rfl)) rfl
set_option maxRecDepth 10000 in
theorem se_X12_used : Cond.selects yX12_used.cls yX12_used yX12_used ∈ tbw := in_tb (in_p6 (i := 12) rfl) rfl
def M_X12_leastRule : MI := (yX12_leastRule, cX12_leastRule, 5, some (.int), [])
set_option maxRecDepth 10000 in
theorem mk_X12_leastRule : MOk M_X12_leastRule 2 := ⟨in_tb (in_t9 (List.mem_of_getElem? (i := 102) rfl)) rfl, rfl, ini_X12, ⟨by decide, by decide, by decide +kernel⟩, by decide⟩
set_option maxRecDepth 10000 in
theorem im_X12_leastRule : Cond.instanceMethod yX12_leastRule ∈ tbw := in_tb (in_t9 (List.mem_of_getElem? (i := 101) rfl)) rfl
set_option maxRecDepth 10000 in
theorem se_X12_leastRule : Cond.selects yX12_leastRule.cls yX12_leastRule yX12_leastRule ∈ tbw := in_tb (in_p7 (i := 1) rfl) rfl
def M_X12_finds : MI := (yX12_finds, cX12_finds, 9, some (.boolean), [])
set_option maxRecDepth 10000 in
theorem mk_X12_finds : MOk M_X12_finds 2 := ⟨in_tb (in_t9 (List.mem_of_getElem? (i := 106) rfl)) rfl, rfl, ini_X12, ⟨by decide, by decide, by decide +kernel⟩, by decide⟩
set_option maxRecDepth 10000 in
theorem im_X12_finds : Cond.instanceMethod yX12_finds ∈ tbw := in_tb (in_t9 (List.mem_of_getElem? (i := 105) rfl)) rfl
set_option maxRecDepth 10000 in
theorem se_X12_finds : Cond.selects yX12_finds.cls yX12_finds yX12_finds ∈ tbw := in_tb (in_p7 (i := 2) rfl) rfl
def M_X12_allAtOnce : MI := (yX12_allAtOnce, cX12_allAtOnce, 10, some (.long), [])
set_option maxRecDepth 10000 in
theorem mk_X12_allAtOnce : MOk M_X12_allAtOnce 1 := ⟨in_tb (in_t9 (List.mem_of_getElem? (i := 98) rfl)) rfl, rfl, ini_X12, ⟨by decide, by decide, by decide +kernel⟩, by decide⟩
set_option maxRecDepth 10000 in
theorem im_X12_allAtOnce : Cond.instanceMethod yX12_allAtOnce ∈ tbw := in_tb (in_t9 (List.mem_of_getElem? (i := 97) rfl)) rfl
set_option maxRecDepth 10000 in
theorem se_X12_allAtOnce : Cond.selects yX12_allAtOnce.cls yX12_allAtOnce yX12_allAtOnce ∈ tbw := in_tb (in_p7 (i := 0) rfl) rfl
def M_X12_next : MI := (yX12_next, cX12_next, 4, some (.long), [])
set_option maxRecDepth 10000 in
theorem mk_X12_next : MOk M_X12_next 2 := ⟨in_tb (in_t9 (List.mem_of_getElem? (i := 94) rfl)) rfl, rfl, ini_X12, ⟨by decide, by decide, by decide +kernel⟩, by decide⟩
set_option maxRecDepth 10000 in
theorem im_X12_next : Cond.instanceMethod yX12_next ∈ tbw := in_tb (in_t9 (List.mem_of_getElem? (i := 93) rfl)) rfl
set_option maxRecDepth 10000 in
theorem se_X12_next : Cond.selects yX12_next.cls yX12_next yX12_next ∈ tbw := in_tb (in_p6 (i := 15) rfl) rfl
def M_X12_isSettling : MI := (yX12_isSettling, cX12_isSettling, 7, some (.boolean), [])
set_option maxRecDepth 10000 in
theorem mk_X12_isSettling : MOk M_X12_isSettling 3 := ⟨in_tb (in_t9 (List.mem_of_getElem? (i := 147) rfl)) rfl, rfl, ini_X12, ⟨by decide, by decide, by decide +kernel⟩, by decide⟩
set_option maxRecDepth 10000 in
theorem im_X12_isSettling : Cond.instanceMethod yX12_isSettling ∈ tbw := in_tb (in_t9 (List.mem_of_getElem? (i := 146) rfl)) rfl
set_option maxRecDepth 10000 in
theorem se_X12_isSettling : Cond.selects yX12_isSettling.cls yX12_isSettling yX12_isSettling ∈ tbw := in_tb (in_p7 (i := 7) rfl) rfl
def M_X12_rule : MI := (yX12_rule, cX12_rule, 3, some (.long), [])
set_option maxRecDepth 10000 in
theorem mk_X12_rule : MOk M_X12_rule 2 := ⟨in_tb (in_t8 (List.mem_of_getElem? (i := 196) rfl)) rfl, rfl, ini_X12, ⟨by decide, by decide, by decide +kernel⟩, by decide⟩
set_option maxRecDepth 10000 in
theorem im_X12_rule : Cond.instanceMethod yX12_rule ∈ tbw := in_tb (in_t8 (List.mem_of_getElem? (i := 194) rfl)) rfl
set_option maxRecDepth 10000 in
theorem se_X12_rule : Cond.selects yX12_rule.cls yX12_rule yX12_rule ∈ tbw := in_tb (in_t8 (List.mem_of_getElem? (i := 195) rfl)) rfl
def M_X12_field : MI := (yX12_field, cX12_field, 2, some (.long), [])
set_option maxRecDepth 10000 in
theorem mk_X12_field : MOk M_X12_field 1 := ⟨in_tb (in_t8 (List.mem_of_getElem? (i := 215) rfl)) rfl, rfl, ini_X12, ⟨by decide, by decide, by decide +kernel⟩, by decide⟩
set_option maxRecDepth 10000 in
theorem im_X12_field : Cond.instanceMethod yX12_field ∈ tbw := in_tb (in_t8 (List.mem_of_getElem? (i := 213) rfl)) rfl
set_option maxRecDepth 10000 in
theorem se_X12_field : Cond.selects yX12_field.cls yX12_field yX12_field ∈ tbw := in_tb (in_t8 (List.mem_of_getElem? (i := 214) rfl)) rfl
def M_X12_seen : MI := (yX12_seen, cX12_seen, 3, some (.long), [])
set_option maxRecDepth 10000 in
theorem mk_X12_seen : MOk M_X12_seen 2 := ⟨in_tb (in_t8 (List.mem_of_getElem? (i := 232) rfl)) rfl, rfl, ini_X12, ⟨by decide, by decide, by decide +kernel⟩, by decide⟩
set_option maxRecDepth 10000 in
theorem im_X12_seen : Cond.instanceMethod yX12_seen ∈ tbw := in_tb (in_t8 (List.mem_of_getElem? (i := 230) rfl)) rfl
set_option maxRecDepth 10000 in
theorem se_X12_seen : Cond.selects yX12_seen.cls yX12_seen yX12_seen ∈ tbw := in_tb (in_t8 (List.mem_of_getElem? (i := 231) rfl)) rfl
def M_X12_beast : MI := (yX12_beast, cX12_beast, 4, some (.int), [])
set_option maxRecDepth 10000 in
theorem mk_X12_beast : MOk M_X12_beast 2 := ⟨in_tb (in_t8 (List.mem_of_getElem? (i := 236) rfl)) rfl, rfl, ini_X12, ⟨by decide, by decide, by decide +kernel⟩, by decide⟩
set_option maxRecDepth 10000 in
theorem im_X12_beast : Cond.instanceMethod yX12_beast ∈ tbw := in_tb (in_t8 (List.mem_of_getElem? (i := 234) rfl)) rfl
set_option maxRecDepth 10000 in
theorem se_X12_beast : Cond.selects yX12_beast.cls yX12_beast yX12_beast ∈ tbw := in_tb (in_t8 (List.mem_of_getElem? (i := 235) rfl)) rfl
def M_X12_steps : MI := (yX12_steps, cX12_steps, 2, some (.int), [])
set_option maxRecDepth 10000 in
theorem mk_X12_steps : MOk M_X12_steps 1 := ⟨in_tb (in_t9 (List.mem_of_getElem? (i := 3) rfl)) rfl, rfl, ini_X12, ⟨by decide, by decide, by decide +kernel⟩, by decide⟩
set_option maxRecDepth 10000 in
theorem im_X12_steps : Cond.instanceMethod yX12_steps ∈ tbw := in_tb (in_t9 (List.mem_of_getElem? (i := 1) rfl)) rfl
set_option maxRecDepth 10000 in
theorem se_X12_steps : Cond.selects yX12_steps.cls yX12_steps yX12_steps ∈ tbw := in_tb (in_t9 (List.mem_of_getElem? (i := 2) rfl)) rfl
def M_X12_maker : MI := (yX12_maker, cX12_maker, 4, some (.int), [])
set_option maxRecDepth 10000 in
theorem mk_X12_maker : MOk M_X12_maker 3 := ⟨in_tb (in_t9 (List.mem_of_getElem? (i := 7) rfl)) rfl, rfl, ini_X12, ⟨by decide, by decide, by decide +kernel⟩, by decide⟩
set_option maxRecDepth 10000 in
theorem im_X12_maker : Cond.instanceMethod yX12_maker ∈ tbw := in_tb (in_t9 (List.mem_of_getElem? (i := 5) rfl)) rfl
set_option maxRecDepth 10000 in
theorem se_X12_maker : Cond.selects yX12_maker.cls yX12_maker yX12_maker ∈ tbw := in_tb (in_t9 (List.mem_of_getElem? (i := 6) rfl)) rfl
def M_X12_fits : MI := (yX12_fits, cX12_fits, 5, some (.boolean), [])
set_option maxRecDepth 10000 in
theorem mk_X12_fits : MOk M_X12_fits 3 := ⟨in_tb (in_t9 (List.mem_of_getElem? (i := 11) rfl)) rfl, rfl, ini_X12, ⟨by decide, by decide, by decide +kernel⟩, by decide⟩
set_option maxRecDepth 10000 in
theorem im_X12_fits : Cond.instanceMethod yX12_fits ∈ tbw := in_tb (in_t9 (List.mem_of_getElem? (i := 9) rfl)) rfl
set_option maxRecDepth 10000 in
theorem se_X12_fits : Cond.selects yX12_fits.cls yX12_fits yX12_fits ∈ tbw := in_tb (in_t9 (List.mem_of_getElem? (i := 10) rfl)) rfl
def M_X12_makes : MI := (yX12_makes, cX12_makes, 3, none, [])
set_option maxRecDepth 10000 in
theorem mk_X12_makes : MOk M_X12_makes 2 := ⟨in_tb (in_t9 (List.mem_of_getElem? (i := 71) rfl)) rfl, rfl, ini_X12, ⟨by decide, by decide, by decide +kernel⟩, by decide⟩
set_option maxRecDepth 10000 in
theorem im_X12_makes : Cond.instanceMethod yX12_makes ∈ tbw := in_tb (in_t9 (List.mem_of_getElem? (i := 70) rfl)) rfl
set_option maxRecDepth 10000 in
theorem se_X12_makes : Cond.selects yX12_makes.cls yX12_makes yX12_makes ∈ tbw := in_tb (in_p6 (i := 11) rfl) rfl
def M_X12_keepsMakers : MI := (yX12_keepsMakers, cX12_keepsMakers, 5, none, [])
set_option maxRecDepth 10000 in
theorem mk_X12_keepsMakers : MOk M_X12_keepsMakers 3 := ⟨in_tb (in_t9 (List.mem_of_getElem? (i := 67) rfl)) rfl, rfl, ini_X12, ⟨by decide, by decide, by decide +kernel⟩, by decide⟩
set_option maxRecDepth 10000 in
theorem im_X12_keepsMakers : Cond.instanceMethod yX12_keepsMakers ∈ tbw := in_tb (in_t9 (List.mem_of_getElem? (i := 66) rfl)) rfl
set_option maxRecDepth 10000 in
theorem se_X12_keepsMakers : Cond.selects yX12_keepsMakers.cls yX12_keepsMakers yX12_keepsMakers ∈ tbw := in_tb (in_p6 (i := 10) rfl) rfl
def M_X12_comes : MI := (yX12_comes, cX12_comes, 5, none, [])
set_option maxRecDepth 10000 in
theorem mk_X12_comes : MOk M_X12_comes 2 := ⟨in_tb (in_t9 (List.mem_of_getElem? (i := 82) rfl)) rfl, rfl, ini_X12, ⟨by decide, by decide, by decide +kernel⟩, by decide⟩
set_option maxRecDepth 10000 in
theorem im_X12_comes : Cond.instanceMethod yX12_comes ∈ tbw := in_tb (in_t9 (List.mem_of_getElem? (i := 81) rfl)) rfl
set_option maxRecDepth 10000 in
theorem se_X12_comes : Cond.selects yX12_comes.cls yX12_comes yX12_comes ∈ tbw := in_tb (in_p6 (i := 13) rfl) rfl
def M_X12_goes : MI := (yX12_goes, cX12_goes, 8, none, [])
set_option maxRecDepth 10000 in
theorem mk_X12_goes : MOk M_X12_goes 3 := ⟨in_tb (in_t9 (List.mem_of_getElem? (i := 63) rfl)) rfl, rfl, ini_X12, ⟨by decide, by decide, by decide +kernel⟩, by decide⟩
set_option maxRecDepth 10000 in
theorem im_X12_goes : Cond.instanceMethod yX12_goes ∈ tbw := in_tb (in_t9 (List.mem_of_getElem? (i := 62) rfl)) rfl
set_option maxRecDepth 10000 in
theorem se_X12_goes : Cond.selects yX12_goes.cls yX12_goes yX12_goes ∈ tbw := in_tb (in_p6 (i := 9) rfl) rfl
def M_X12_goesAll : MI := (yX12_goesAll, cX12_goesAll, 10, none, [])
set_option maxRecDepth 10000 in
theorem mk_X12_goesAll : MOk M_X12_goesAll 2 := ⟨in_tb (in_t9 (List.mem_of_getElem? (i := 110) rfl)) rfl, rfl, ini_X12, ⟨by decide, by decide, by decide +kernel⟩, by decide⟩
set_option maxRecDepth 10000 in
theorem im_X12_goesAll : Cond.instanceMethod yX12_goesAll ∈ tbw := in_tb (in_t9 (List.mem_of_getElem? (i := 109) rfl)) rfl
set_option maxRecDepth 10000 in
theorem se_X12_goesAll : Cond.selects yX12_goesAll.cls yX12_goesAll yX12_goesAll ∈ tbw := in_tb (in_p7 (i := 3) rfl) rfl
def M_X12_stepsOn : MI := (yX12_stepsOn, cX12_stepsOn, 4, some (.boolean), [])
set_option maxRecDepth 10000 in
theorem mk_X12_stepsOn : MOk M_X12_stepsOn 1 := ⟨in_tb (in_t9 (List.mem_of_getElem? (i := 90) rfl)) rfl, rfl, ini_X12, ⟨by decide, by decide, by decide +kernel⟩, by decide⟩
set_option maxRecDepth 10000 in
theorem im_X12_stepsOn : Cond.instanceMethod yX12_stepsOn ∈ tbw := in_tb (in_t9 (List.mem_of_getElem? (i := 89) rfl)) rfl
set_option maxRecDepth 10000 in
theorem se_X12_stepsOn : Cond.selects yX12_stepsOn.cls yX12_stepsOn yX12_stepsOn ∈ tbw := in_tb (in_p6 (i := 14) rfl) rfl
def M_X12_use : MI := (yX12_use, cX12_use, 4, some (.long), [])
set_option maxRecDepth 10000 in
theorem mk_X12_use : MOk M_X12_use 3 := ⟨in_tb (in_t9 (List.mem_of_getElem? (i := 55) rfl)) rfl, rfl, ini_X12, ⟨by decide, by decide, by decide +kernel⟩, by decide⟩
set_option maxRecDepth 10000 in
theorem im_X12_use : Cond.instanceMethod yX12_use ∈ tbw := in_tb (in_t9 (List.mem_of_getElem? (i := 53) rfl)) rfl
set_option maxRecDepth 10000 in
theorem se_X12_use : Cond.selects yX12_use.cls yX12_use yX12_use ∈ tbw := in_tb (in_t9 (List.mem_of_getElem? (i := 54) rfl)) rfl
def M_X12_run : MI := (yX12_run, cX12_run, 4, some (.int), [])
set_option maxRecDepth 10000 in
theorem mk_X12_run : MOk M_X12_run 2 := ⟨in_tb (in_t9 (List.mem_of_getElem? (i := 86) rfl)) rfl, rfl, ini_X12, ⟨by decide, by decide, by decide +kernel⟩, by decide⟩
set_option maxRecDepth 10000 in
theorem im_X12_run : Cond.instanceMethod yX12_run ∈ tbw := in_tb (in_t9 (List.mem_of_getElem? (i := 84) rfl)) rfl
set_option maxRecDepth 10000 in
theorem se_X12_run : Cond.selects yX12_run.cls yX12_run yX12_run ∈ tbw := in_tb (in_t9 (List.mem_of_getElem? (i := 85) rfl)) rfl
def M_X12_put : MI := (yX12_put, cX12_put, 6, some (.long), [])
set_option maxRecDepth 10000 in
theorem mk_X12_put : MOk M_X12_put 2 := ⟨in_tb (in_t9 (List.mem_of_getElem? (i := 114) rfl)) rfl, rfl, ini_X12, ⟨by decide, by decide, by decide +kernel⟩, by decide⟩
set_option maxRecDepth 10000 in
theorem im_X12_put : Cond.instanceMethod yX12_put ∈ tbw := in_tb (in_t9 (List.mem_of_getElem? (i := 112) rfl)) rfl
set_option maxRecDepth 10000 in
theorem se_X12_put : Cond.selects yX12_put.cls yX12_put yX12_put ∈ tbw := in_tb (in_t9 (List.mem_of_getElem? (i := 113) rfl)) rfl
def M_X12_add : MI := (yX12_add, cX12_add, 6, some (.int), [])
set_option maxRecDepth 10000 in
theorem mk_X12_add : MOk M_X12_add 2 := ⟨in_tb (in_t9 (List.mem_of_getElem? (i := 118) rfl)) rfl, rfl, ini_X12, ⟨by decide, by decide, by decide +kernel⟩, by decide⟩
set_option maxRecDepth 10000 in
theorem im_X12_add : Cond.instanceMethod yX12_add ∈ tbw := in_tb (in_t9 (List.mem_of_getElem? (i := 116) rfl)) rfl
set_option maxRecDepth 10000 in
theorem se_X12_add : Cond.selects yX12_add.cls yX12_add yX12_add ∈ tbw := in_tb (in_t9 (List.mem_of_getElem? (i := 117) rfl)) rfl
def M_X12_drop : MI := (yX12_drop, cX12_drop, 2, some (.int), [])
set_option maxRecDepth 10000 in
theorem mk_X12_drop : MOk M_X12_drop 1 := ⟨in_tb (in_t9 (List.mem_of_getElem? (i := 122) rfl)) rfl, rfl, ini_X12, ⟨by decide, by decide, by decide +kernel⟩, by decide⟩
set_option maxRecDepth 10000 in
theorem im_X12_drop : Cond.instanceMethod yX12_drop ∈ tbw := in_tb (in_t9 (List.mem_of_getElem? (i := 120) rfl)) rfl
set_option maxRecDepth 10000 in
theorem se_X12_drop : Cond.selects yX12_drop.cls yX12_drop yX12_drop ∈ tbw := in_tb (in_t9 (List.mem_of_getElem? (i := 121) rfl)) rfl
def M_X12_draw : MI := (yX12_draw, cX12_draw, 2, some (.int), [])
set_option maxRecDepth 10000 in
theorem mk_X12_draw : MOk M_X12_draw 1 := ⟨in_tb (in_t9 (List.mem_of_getElem? (i := 134) rfl)) rfl, rfl, ini_X12, ⟨by decide, by decide, by decide +kernel⟩, by decide⟩
set_option maxRecDepth 10000 in
theorem im_X12_draw : Cond.instanceMethod yX12_draw ∈ tbw := in_tb (in_t9 (List.mem_of_getElem? (i := 133) rfl)) rfl
set_option maxRecDepth 10000 in
theorem se_X12_draw : Cond.selects yX12_draw.cls yX12_draw yX12_draw ∈ tbw := in_tb (in_p7 (i := 5) rfl) rfl
def M_X12_choices : MI := (yX12_choices, cX12_choices, 7, some (.int), [])
set_option maxRecDepth 10000 in
theorem mk_X12_choices : MOk M_X12_choices 2 := ⟨in_tb (in_t9 (List.mem_of_getElem? (i := 139) rfl)) rfl, rfl, ini_X12, ⟨by decide, by decide, by decide +kernel⟩, by decide⟩
set_option maxRecDepth 10000 in
theorem im_X12_choices : Cond.instanceMethod yX12_choices ∈ tbw := in_tb (in_t9 (List.mem_of_getElem? (i := 138) rfl)) rfl
set_option maxRecDepth 10000 in
theorem se_X12_choices : Cond.selects yX12_choices.cls yX12_choices yX12_choices ∈ tbw := in_tb (in_p7 (i := 6) rfl) rfl
def M_X12_year : MI := (yX12_year, cX12_year, 4, some (.boolean), [])
set_option maxRecDepth 10000 in
theorem mk_X12_year : MOk M_X12_year 1 := ⟨in_tb (in_t9 (List.mem_of_getElem? (i := 130) rfl)) rfl, rfl, ini_X12, ⟨by decide, by decide, by decide +kernel⟩, by decide⟩
set_option maxRecDepth 10000 in
theorem im_X12_year : Cond.instanceMethod yX12_year ∈ tbw := in_tb (in_t9 (List.mem_of_getElem? (i := 129) rfl)) rfl
set_option maxRecDepth 10000 in
theorem se_X12_year : Cond.selects yX12_year.cls yX12_year yX12_year ∈ tbw := in_tb (in_p7 (i := 4) rfl) rfl
def M_X12_years : MI := (yX12_years, cX12_years, 5, some (.int), [])
set_option maxRecDepth 10000 in
theorem mk_X12_years : MOk M_X12_years 2 := ⟨in_tb (in_t9 (List.mem_of_getElem? (i := 126) rfl)) rfl, rfl, ini_X12, ⟨by decide, by decide, by decide +kernel⟩, by decide⟩
set_option maxRecDepth 10000 in
theorem im_X12_years : Cond.instanceMethod yX12_years ∈ tbw := in_tb (in_t9 (List.mem_of_getElem? (i := 124) rfl)) rfl
set_option maxRecDepth 10000 in
theorem se_X12_years : Cond.selects yX12_years.cls yX12_years yX12_years ∈ tbw := in_tb (in_t9 (List.mem_of_getElem? (i := 125) rfl)) rfl
def M_X12_settles : MI := (yX12_settles, cX12_settles, 5, some (.long), [])
set_option maxRecDepth 10000 in
theorem mk_X12_settles : MOk M_X12_settles 3 := ⟨in_tb (in_t9 (List.mem_of_getElem? (i := 143) rfl)) rfl, rfl, ini_X12, ⟨by decide, by decide, by decide +kernel⟩, by decide⟩
set_option maxRecDepth 10000 in
theorem im_X12_settles : Cond.instanceMethod yX12_settles ∈ tbw := in_tb (in_t9 (List.mem_of_getElem? (i := 141) rfl)) rfl
set_option maxRecDepth 10000 in
theorem se_X12_settles : Cond.selects yX12_settles.cls yX12_settles yX12_settles ∈ tbw := in_tb (in_t9 (List.mem_of_getElem? (i := 142) rfl)) rfl
def M_X12_again : MI := (yX12_again, cX12_again, 6, some (.int), [])
set_option maxRecDepth 10000 in
theorem mk_X12_again : MOk M_X12_again 2 := ⟨in_tb (in_t9 (List.mem_of_getElem? (i := 151) rfl)) rfl, rfl, ini_X12, ⟨by decide, by decide, by decide +kernel⟩, by decide⟩
set_option maxRecDepth 10000 in
theorem im_X12_again : Cond.instanceMethod yX12_again ∈ tbw := in_tb (in_t9 (List.mem_of_getElem? (i := 149) rfl)) rfl
set_option maxRecDepth 10000 in
theorem se_X12_again : Cond.selects yX12_again.cls yX12_again yX12_again ∈ tbw := in_tb (in_t9 (List.mem_of_getElem? (i := 150) rfl)) rfl
def M_X12_alike : MI := (yX12_alike, cX12_alike, 7, some (.boolean), [])
set_option maxRecDepth 10000 in
theorem mk_X12_alike : MOk M_X12_alike 2 := ⟨in_tb (in_t9 (List.mem_of_getElem? (i := 155) rfl)) rfl, rfl, ini_X12, ⟨by decide, by decide, by decide +kernel⟩, by decide⟩
set_option maxRecDepth 10000 in
theorem im_X12_alike : Cond.instanceMethod yX12_alike ∈ tbw := in_tb (in_t9 (List.mem_of_getElem? (i := 153) rfl)) rfl
set_option maxRecDepth 10000 in
theorem se_X12_alike : Cond.selects yX12_alike.cls yX12_alike yX12_alike ∈ tbw := in_tb (in_t9 (List.mem_of_getElem? (i := 154) rfl)) rfl
def M_X12_slotOf : MI := (yX12_slotOf, cX12_slotOf, 4, some (.int), [])
set_option maxRecDepth 10000 in
theorem mk_X12_slotOf : MOk M_X12_slotOf 1 := ⟨in_tb (in_t9 (List.mem_of_getElem? (i := 175) rfl)) rfl, rfl, ini_X12, ⟨by decide, by decide, by decide +kernel⟩, by decide⟩
set_option maxRecDepth 10000 in
theorem im_X12_slotOf : Cond.instanceMethod yX12_slotOf ∈ tbw := in_tb (in_t9 (List.mem_of_getElem? (i := 174) rfl)) rfl
set_option maxRecDepth 10000 in
theorem se_X12_slotOf : Cond.selects yX12_slotOf.cls yX12_slotOf yX12_slotOf ∈ tbw := in_tb (in_p7 (i := 11) rfl) rfl
def M_X12_indexOf : MI := (yX12_indexOf, cX12_indexOf, 3, some (.int), [])
set_option maxRecDepth 10000 in
theorem mk_X12_indexOf : MOk M_X12_indexOf 1 := ⟨in_tb (in_t9 (List.mem_of_getElem? (i := 195) rfl)) rfl, rfl, ini_X12, ⟨by decide, by decide, by decide +kernel⟩, by decide⟩
set_option maxRecDepth 10000 in
theorem im_X12_indexOf : Cond.instanceMethod yX12_indexOf ∈ tbw := in_tb (in_t9 (List.mem_of_getElem? (i := 194) rfl)) rfl
set_option maxRecDepth 10000 in
theorem se_X12_indexOf : Cond.selects yX12_indexOf.cls yX12_indexOf yX12_indexOf ∈ tbw := in_tb (in_p7 (i := 14) rfl) rfl
def M_X12_isMet : MI := (yX12_isMet, cX12_isMet, 5, some (.boolean), [])
set_option maxRecDepth 10000 in
theorem mk_X12_isMet : MOk M_X12_isMet 2 := ⟨in_tb (in_t9 (List.mem_of_getElem? (i := 171) rfl)) rfl, rfl, ini_X12, ⟨by decide, by decide, by decide +kernel⟩, by decide⟩
set_option maxRecDepth 10000 in
theorem im_X12_isMet : Cond.instanceMethod yX12_isMet ∈ tbw := in_tb (in_t9 (List.mem_of_getElem? (i := 170) rfl)) rfl
set_option maxRecDepth 10000 in
theorem se_X12_isMet : Cond.selects yX12_isMet.cls yX12_isMet yX12_isMet ∈ tbw := in_tb (in_p7 (i := 10) rfl) rfl
def M_X12_spreads : MI := (yX12_spreads, cX12_spreads, 6, some (.boolean), [])
set_option maxRecDepth 10000 in
theorem mk_X12_spreads : MOk M_X12_spreads 1 := ⟨in_tb (in_t9 (List.mem_of_getElem? (i := 180) rfl)) rfl, rfl, ini_X12, ⟨by decide, by decide, by decide +kernel⟩, by decide⟩
set_option maxRecDepth 10000 in
theorem im_X12_spreads : Cond.instanceMethod yX12_spreads ∈ tbw := in_tb (in_t9 (List.mem_of_getElem? (i := 179) rfl)) rfl
set_option maxRecDepth 10000 in
theorem se_X12_spreads : Cond.selects yX12_spreads.cls yX12_spreads yX12_spreads ∈ tbw := in_tb (in_p7 (i := 12) rfl) rfl
def M_X12_beginsAt : MI := (yX12_beginsAt, cX12_beginsAt, 4, none, [])
set_option maxRecDepth 10000 in
theorem mk_X12_beginsAt : MOk M_X12_beginsAt 1 := ⟨in_tb (in_t9 (List.mem_of_getElem? (i := 167) rfl)) rfl, rfl, ini_X12, ⟨by decide, by decide, by decide +kernel⟩, by decide⟩
set_option maxRecDepth 10000 in
theorem im_X12_beginsAt : Cond.instanceMethod yX12_beginsAt ∈ tbw := in_tb (in_t9 (List.mem_of_getElem? (i := 166) rfl)) rfl
set_option maxRecDepth 10000 in
theorem se_X12_beginsAt : Cond.selects yX12_beginsAt.cls yX12_beginsAt yX12_beginsAt ∈ tbw := in_tb (in_p7 (i := 9) rfl) rfl
def M_X12_searches : MI := (yX12_searches, cX12_searches, 5, some (.boolean), [])
set_option maxRecDepth 10000 in
theorem mk_X12_searches : MOk M_X12_searches 2 := ⟨in_tb (in_t9 (List.mem_of_getElem? (i := 163) rfl)) rfl, rfl, ini_X12, ⟨by decide, by decide, by decide +kernel⟩, by decide⟩
set_option maxRecDepth 10000 in
theorem im_X12_searches : Cond.instanceMethod yX12_searches ∈ tbw := in_tb (in_t9 (List.mem_of_getElem? (i := 162) rfl)) rfl
set_option maxRecDepth 10000 in
theorem se_X12_searches : Cond.selects yX12_searches.cls yX12_searches yX12_searches ∈ tbw := in_tb (in_p7 (i := 8) rfl) rfl
def M_X12_isSettled : MI := (yX12_isSettled, cX12_isSettled, 3, some (.boolean), [])
set_option maxRecDepth 10000 in
theorem mk_X12_isSettled : MOk M_X12_isSettled 1 := ⟨in_tb (in_t9 (List.mem_of_getElem? (i := 186) rfl)) rfl, rfl, ini_X12, ⟨by decide, by decide, by decide +kernel⟩, by decide⟩
set_option maxRecDepth 10000 in
theorem im_X12_isSettled : Cond.instanceMethod yX12_isSettled ∈ tbw := in_tb (in_t9 (List.mem_of_getElem? (i := 185) rfl)) rfl
set_option maxRecDepth 10000 in
theorem se_X12_isSettled : Cond.selects yX12_isSettled.cls yX12_isSettled yX12_isSettled ∈ tbw := in_tb (in_p7 (i := 13) rfl) rfl
def M_X12_becomes : MI := (yX12_becomes, cX12_becomes, 10, some (.long), [])
set_option maxRecDepth 10000 in
theorem mk_X12_becomes : MOk M_X12_becomes 3 := ⟨in_tb (in_t9 (List.mem_of_getElem? (i := 159) rfl)) rfl, rfl, ini_X12, ⟨by decide, by decide, by decide +kernel⟩, by decide⟩
set_option maxRecDepth 10000 in
theorem im_X12_becomes : Cond.instanceMethod yX12_becomes ∈ tbw := in_tb (in_t9 (List.mem_of_getElem? (i := 157) rfl)) rfl
set_option maxRecDepth 10000 in
theorem se_X12_becomes : Cond.selects yX12_becomes.cls yX12_becomes yX12_becomes ∈ tbw := in_tb (in_t9 (List.mem_of_getElem? (i := 158) rfl)) rfl
def M_X12_fewest : MI := (yX12_fewest, cX12_fewest, 7, some (.int), [])
set_option maxRecDepth 10000 in
theorem mk_X12_fewest : MOk M_X12_fewest 2 := ⟨in_tb (in_t9 (List.mem_of_getElem? (i := 191) rfl)) rfl, rfl, ini_X12, ⟨by decide, by decide, by decide +kernel⟩, by decide⟩
set_option maxRecDepth 10000 in
theorem im_X12_fewest : Cond.instanceMethod yX12_fewest ∈ tbw := in_tb (in_t9 (List.mem_of_getElem? (i := 189) rfl)) rfl
set_option maxRecDepth 10000 in
theorem se_X12_fewest : Cond.selects yX12_fewest.cls yX12_fewest yX12_fewest ∈ tbw := in_tb (in_t9 (List.mem_of_getElem? (i := 190) rfl)) rfl
def M_X12_meets : MI := (yX12_meets, cX12_meets, 14, some (.long), [])
set_option maxRecDepth 10000 in
theorem mk_X12_meets : MOk M_X12_meets 4 := ⟨in_tb (in_t9 (List.mem_of_getElem? (i := 199) rfl)) rfl, rfl, ini_X12, ⟨by decide, by decide, by decide +kernel⟩, by decide⟩
set_option maxRecDepth 10000 in
theorem im_X12_meets : Cond.instanceMethod yX12_meets ∈ tbw := in_tb (in_t9 (List.mem_of_getElem? (i := 197) rfl)) rfl
set_option maxRecDepth 10000 in
theorem se_X12_meets : Cond.selects yX12_meets.cls yX12_meets yX12_meets ∈ tbw := in_tb (in_t9 (List.mem_of_getElem? (i := 198) rfl)) rfl
def M_X12_settleAlike : MI := (yX12_settleAlike, cX12_settleAlike, 6, some (.boolean), [])
set_option maxRecDepth 10000 in
theorem mk_X12_settleAlike : MOk M_X12_settleAlike 0 := ⟨in_tb (in_t9 (List.mem_of_getElem? (i := 220) rfl)) rfl, rfl, ini_X12, ⟨by decide, by decide, by decide +kernel⟩, by decide⟩
set_option maxRecDepth 10000 in
theorem im_X12_settleAlike : Cond.instanceMethod yX12_settleAlike ∈ tbw := in_tb (in_t9 (List.mem_of_getElem? (i := 219) rfl)) rfl
set_option maxRecDepth 10000 in
theorem se_X12_settleAlike : Cond.selects yX12_settleAlike.cls yX12_settleAlike yX12_settleAlike ∈ tbw := in_tb (in_p8 (i := 2) rfl) rfl
def M_X12_counts : MI := (yX12_counts, cX12_counts, 1, none, [])
set_option maxRecDepth 10000 in
theorem mk_X12_counts : MOk M_X12_counts 0 := ⟨in_tb (in_t9 (List.mem_of_getElem? (i := 216) rfl)) rfl, rfl, ini_X12, ⟨by decide, by decide, by decide +kernel⟩, by decide⟩
set_option maxRecDepth 10000 in
theorem im_X12_counts : Cond.instanceMethod yX12_counts ∈ tbw := in_tb (in_t9 (List.mem_of_getElem? (i := 215) rfl)) rfl
set_option maxRecDepth 10000 in
theorem se_X12_counts : Cond.selects yX12_counts.cls yX12_counts yX12_counts ∈ tbw := in_tb (in_p8 (i := 1) rfl) rfl
def M_X12_overlap : MI := (yX12_overlap, cX12_overlap, 4, none, [])
set_option maxRecDepth 10000 in
theorem mk_X12_overlap : MOk M_X12_overlap 3 := ⟨in_tb (in_t9 (List.mem_of_getElem? (i := 212) rfl)) rfl, rfl, ini_X12, ⟨by decide, by decide, by decide +kernel⟩, by decide⟩
set_option maxRecDepth 10000 in
theorem im_X12_overlap : Cond.instanceMethod yX12_overlap ∈ tbw := in_tb (in_t9 (List.mem_of_getElem? (i := 211) rfl)) rfl
set_option maxRecDepth 10000 in
theorem se_X12_overlap : Cond.selects yX12_overlap.cls yX12_overlap yX12_overlap ∈ tbw := in_tb (in_p8 (i := 0) rfl) rfl
def M_X12_within : MI := (yX12_within, cX12_within, 4, none, [])
set_option maxRecDepth 10000 in
theorem mk_X12_within : MOk M_X12_within 3 := ⟨in_tb (in_t9 (List.mem_of_getElem? (i := 224) rfl)) rfl, rfl, ini_X12, ⟨by decide, by decide, by decide +kernel⟩, by decide⟩
set_option maxRecDepth 10000 in
theorem im_X12_within : Cond.instanceMethod yX12_within ∈ tbw := in_tb (in_t9 (List.mem_of_getElem? (i := 223) rfl)) rfl
set_option maxRecDepth 10000 in
theorem se_X12_within : Cond.selects yX12_within.cls yX12_within yX12_within ∈ tbw := in_tb (in_p8 (i := 3) rfl) rfl
def M_X12_looksOver : MI := (yX12_looksOver, cX12_looksOver, 4, none, [])
set_option maxRecDepth 10000 in
theorem mk_X12_looksOver : MOk M_X12_looksOver 0 := ⟨in_tb (in_t9 (List.mem_of_getElem? (i := 207) rfl)) rfl, rfl, ini_X12, ⟨by decide, by decide, by decide +kernel⟩, by decide⟩
set_option maxRecDepth 10000 in
theorem im_X12_looksOver : Cond.instanceMethod yX12_looksOver ∈ tbw := in_tb (in_t9 (List.mem_of_getElem? (i := 206) rfl)) rfl
set_option maxRecDepth 10000 in
theorem se_X12_looksOver : Cond.selects yX12_looksOver.cls yX12_looksOver yX12_looksOver ∈ tbw := in_tb (in_p7 (i := 15) rfl) rfl
def M_X12_overlaps : MI := (yX12_overlaps, cX12_overlaps, 2, some (.long), [])
set_option maxRecDepth 10000 in
theorem mk_X12_overlaps : MOk M_X12_overlaps 1 := ⟨in_tb (in_t9 (List.mem_of_getElem? (i := 203) rfl)) rfl, rfl, ini_X12, ⟨by decide, by decide, by decide +kernel⟩, by decide⟩
set_option maxRecDepth 10000 in
theorem im_X12_overlaps : Cond.instanceMethod yX12_overlaps ∈ tbw := in_tb (in_t9 (List.mem_of_getElem? (i := 201) rfl)) rfl
set_option maxRecDepth 10000 in
theorem se_X12_overlaps : Cond.selects yX12_overlaps.cls yX12_overlaps yX12_overlaps ∈ tbw := in_tb (in_t9 (List.mem_of_getElem? (i := 202) rfl)) rfl
def M_X12_complete : MI := (yX12_complete, cX12_complete, 5, some (.int), [])
set_option maxRecDepth 10000 in
theorem mk_X12_complete : MOk M_X12_complete 0 := ⟨in_tb (in_t9 (List.mem_of_getElem? (i := 228) rfl)) rfl, rfl, ini_X12, ⟨by decide, by decide, by decide +kernel⟩, by decide⟩
set_option maxRecDepth 10000 in
theorem im_X12_complete : Cond.instanceMethod yX12_complete ∈ tbw := in_tb (in_t9 (List.mem_of_getElem? (i := 226) rfl)) rfl
set_option maxRecDepth 10000 in
theorem se_X12_complete : Cond.selects yX12_complete.cls yX12_complete yX12_complete ∈ tbw := in_tb (in_t9 (List.mem_of_getElem? (i := 227) rfl)) rfl
def M_X12_beastsOf : MI := (yX12_beastsOf, cX12_beastsOf, 4, some (.int), [])
set_option maxRecDepth 10000 in
theorem mk_X12_beastsOf : MOk M_X12_beastsOf 1 := ⟨in_tb (in_t10 (List.mem_of_getElem? (i := 0) rfl)) rfl, rfl, ini_X12, ⟨by decide, by decide, by decide +kernel⟩, by decide⟩
set_option maxRecDepth 10000 in
theorem sm_X12_beastsOf : Cond.static yX12_beastsOf ∈ tbw := in_tb (in_t9 (List.mem_of_getElem? (i := 239) rfl)) rfl
def M_X12_inRules : MI := (yX12_inRules, cX12_inRules, 5, some (.int), [])
set_option maxRecDepth 10000 in
theorem mk_X12_inRules : MOk M_X12_inRules 2 := ⟨in_tb (in_t9 (List.mem_of_getElem? (i := 237) rfl)) rfl, rfl, ini_X12, ⟨by decide, by decide, by decide +kernel⟩, by decide⟩
set_option maxRecDepth 10000 in
theorem im_X12_inRules : Cond.instanceMethod yX12_inRules ∈ tbw := in_tb (in_t9 (List.mem_of_getElem? (i := 236) rfl)) rfl
set_option maxRecDepth 10000 in
theorem se_X12_inRules : Cond.selects yX12_inRules.cls yX12_inRules yX12_inRules ∈ tbw := in_tb (in_p8 (i := 4) rfl) rfl
def M_X12_weighs : MI := (yX12_weighs, cX12_weighs, 4, none, [])
set_option maxRecDepth 10000 in
theorem mk_X12_weighs : MOk M_X12_weighs 2 := ⟨in_tb (in_t10 (List.mem_of_getElem? (i := 9) rfl)) rfl, rfl, ini_X12, ⟨by decide, by decide, by decide +kernel⟩, by decide⟩
set_option maxRecDepth 10000 in
theorem im_X12_weighs : Cond.instanceMethod yX12_weighs ∈ tbw := in_tb (in_t10 (List.mem_of_getElem? (i := 8) rfl)) rfl
set_option maxRecDepth 10000 in
theorem se_X12_weighs : Cond.selects yX12_weighs.cls yX12_weighs yX12_weighs ∈ tbw := in_tb (in_p8 (i := 6) rfl) rfl
def M_X12_nextWeights : MI := (yX12_nextWeights, cX12_nextWeights, 4, some (.boolean), [])
set_option maxRecDepth 10000 in
theorem mk_X12_nextWeights : MOk M_X12_nextWeights 2 := ⟨in_tb (in_t10 (List.mem_of_getElem? (i := 21) rfl)) rfl, rfl, ini_X12, ⟨by decide, by decide, by decide +kernel⟩, by decide⟩
set_option maxRecDepth 10000 in
theorem im_X12_nextWeights : Cond.instanceMethod yX12_nextWeights ∈ tbw := in_tb (in_t10 (List.mem_of_getElem? (i := 20) rfl)) rfl
set_option maxRecDepth 10000 in
theorem se_X12_nextWeights : Cond.selects yX12_nextWeights.cls yX12_nextWeights yX12_nextWeights ∈ tbw := in_tb (in_p8 (i := 9) rfl) rfl
def M_X12_weightOf : MI := (yX12_weightOf, cX12_weightOf, 5, some (.int), [])
set_option maxRecDepth 10000 in
theorem mk_X12_weightOf : MOk M_X12_weightOf 1 := ⟨in_tb (in_t10 (List.mem_of_getElem? (i := 17) rfl)) rfl, rfl, ini_X12, ⟨by decide, by decide, by decide +kernel⟩, by decide⟩
set_option maxRecDepth 10000 in
theorem im_X12_weightOf : Cond.instanceMethod yX12_weightOf ∈ tbw := in_tb (in_t10 (List.mem_of_getElem? (i := 16) rfl)) rfl
set_option maxRecDepth 10000 in
theorem se_X12_weightOf : Cond.selects yX12_weightOf.cls yX12_weightOf yX12_weightOf ∈ tbw := in_tb (in_p8 (i := 8) rfl) rfl
def M_X12_isNever : MI := (yX12_isNever, cX12_isNever, 8, some (.boolean), [])
set_option maxRecDepth 10000 in
theorem mk_X12_isNever : MOk M_X12_isNever 3 := ⟨in_tb (in_t10 (List.mem_of_getElem? (i := 13) rfl)) rfl, rfl, ini_X12, ⟨by decide, by decide, by decide +kernel⟩, by decide⟩
set_option maxRecDepth 10000 in
theorem im_X12_isNever : Cond.instanceMethod yX12_isNever ∈ tbw := in_tb (in_t10 (List.mem_of_getElem? (i := 12) rfl)) rfl
set_option maxRecDepth 10000 in
theorem se_X12_isNever : Cond.selects yX12_isNever.cls yX12_isNever yX12_isNever ∈ tbw := in_tb (in_p8 (i := 7) rfl) rfl
def M_X12_neverBy : MI := (yX12_neverBy, cX12_neverBy, 7, some (.int), [])
set_option maxRecDepth 10000 in
theorem mk_X12_neverBy : MOk M_X12_neverBy 3 := ⟨in_tb (in_t10 (List.mem_of_getElem? (i := 5) rfl)) rfl, rfl, ini_X12, ⟨by decide, by decide, by decide +kernel⟩, by decide⟩
set_option maxRecDepth 10000 in
theorem im_X12_neverBy : Cond.instanceMethod yX12_neverBy ∈ tbw := in_tb (in_t10 (List.mem_of_getElem? (i := 4) rfl)) rfl
set_option maxRecDepth 10000 in
theorem se_X12_neverBy : Cond.selects yX12_neverBy.cls yX12_neverBy yX12_neverBy ∈ tbw := in_tb (in_p8 (i := 5) rfl) rfl
def M_X12_never : MI := (yX12_never, cX12_never, 8, some (.int), [])
set_option maxRecDepth 10000 in
theorem mk_X12_never : MOk M_X12_never 3 := ⟨in_tb (in_t9 (List.mem_of_getElem? (i := 233) rfl)) rfl, rfl, ini_X12, ⟨by decide, by decide, by decide +kernel⟩, by decide⟩
set_option maxRecDepth 10000 in
theorem im_X12_never : Cond.instanceMethod yX12_never ∈ tbw := in_tb (in_t9 (List.mem_of_getElem? (i := 231) rfl)) rfl
set_option maxRecDepth 10000 in
theorem se_X12_never : Cond.selects yX12_never.cls yX12_never yX12_never ∈ tbw := in_tb (in_t9 (List.mem_of_getElem? (i := 232) rfl)) rfl
def M_X12_allFall : MI := (yX12_allFall, cX12_allFall, 3, some (.boolean), [])
set_option maxRecDepth 10000 in
theorem mk_X12_allFall : MOk M_X12_allFall 0 := ⟨in_tb (in_t10 (List.mem_of_getElem? (i := 29) rfl)) rfl, rfl, ini_X12, ⟨by decide, by decide, by decide +kernel⟩, by decide⟩
set_option maxRecDepth 10000 in
theorem im_X12_allFall : Cond.instanceMethod yX12_allFall ∈ tbw := in_tb (in_t10 (List.mem_of_getElem? (i := 28) rfl)) rfl
set_option maxRecDepth 10000 in
theorem se_X12_allFall : Cond.selects yX12_allFall.cls yX12_allFall yX12_allFall ∈ tbw := in_tb (in_p8 (i := 10) rfl) rfl
def M_X12_falls : MI := (yX12_falls, cX12_falls, 5, some (.int), [])
set_option maxRecDepth 10000 in
theorem mk_X12_falls : MOk M_X12_falls 2 := ⟨in_tb (in_t10 (List.mem_of_getElem? (i := 25) rfl)) rfl, rfl, ini_X12, ⟨by decide, by decide, by decide +kernel⟩, by decide⟩
set_option maxRecDepth 10000 in
theorem im_X12_falls : Cond.instanceMethod yX12_falls ∈ tbw := in_tb (in_t10 (List.mem_of_getElem? (i := 23) rfl)) rfl
set_option maxRecDepth 10000 in
theorem se_X12_falls : Cond.selects yX12_falls.cls yX12_falls yX12_falls ∈ tbw := in_tb (in_t10 (List.mem_of_getElem? (i := 24) rfl)) rfl
def M_X12_lightOf : MI := (yX12_lightOf, cX12_lightOf, 5, some (.int), [])
set_option maxRecDepth 10000 in
theorem mk_X12_lightOf : MOk M_X12_lightOf 1 := ⟨in_tb (in_t10 (List.mem_of_getElem? (i := 37) rfl)) rfl, rfl, ini_X12, ⟨by decide, by decide, by decide +kernel⟩, by decide⟩
set_option maxRecDepth 10000 in
theorem im_X12_lightOf : Cond.instanceMethod yX12_lightOf ∈ tbw := in_tb (in_t10 (List.mem_of_getElem? (i := 36) rfl)) rfl
set_option maxRecDepth 10000 in
theorem se_X12_lightOf : Cond.selects yX12_lightOf.cls yX12_lightOf yX12_lightOf ∈ tbw := in_tb (in_p8 (i := 11) rfl) rfl
def M_X12_light : MI := (yX12_light, cX12_light, 3, some (.int), [])
set_option maxRecDepth 10000 in
theorem mk_X12_light : MOk M_X12_light 1 := ⟨in_tb (in_t10 (List.mem_of_getElem? (i := 33) rfl)) rfl, rfl, ini_X12, ⟨by decide, by decide, by decide +kernel⟩, by decide⟩
set_option maxRecDepth 10000 in
theorem im_X12_light : Cond.instanceMethod yX12_light ∈ tbw := in_tb (in_t10 (List.mem_of_getElem? (i := 31) rfl)) rfl
set_option maxRecDepth 10000 in
theorem se_X12_light : Cond.selects yX12_light.cls yX12_light yX12_light ∈ tbw := in_tb (in_t10 (List.mem_of_getElem? (i := 32) rfl)) rfl
def M_X12_loss : MI := (yX12_loss, cX12_loss, 2, some (.int), [])
set_option maxRecDepth 10000 in
theorem mk_X12_loss : MOk M_X12_loss 1 := ⟨in_tb (in_t10 (List.mem_of_getElem? (i := 41) rfl)) rfl, rfl, ini_X12, ⟨by decide, by decide, by decide +kernel⟩, by decide⟩
set_option maxRecDepth 10000 in
theorem im_X12_loss : Cond.instanceMethod yX12_loss ∈ tbw := in_tb (in_t10 (List.mem_of_getElem? (i := 39) rfl)) rfl
set_option maxRecDepth 10000 in
theorem se_X12_loss : Cond.selects yX12_loss.cls yX12_loss yX12_loss ∈ tbw := in_tb (in_t10 (List.mem_of_getElem? (i := 40) rfl)) rfl
def M_X12_endless : MI := (yX12_endless, cX12_endless, 7, some (.long), [])
set_option maxRecDepth 10000 in
theorem mk_X12_endless : MOk M_X12_endless 0 := ⟨in_tb (in_t10 (List.mem_of_getElem? (i := 45) rfl)) rfl, rfl, ini_X12, ⟨by decide, by decide, by decide +kernel⟩, by decide⟩
set_option maxRecDepth 10000 in
theorem im_X12_endless : Cond.instanceMethod yX12_endless ∈ tbw := in_tb (in_t10 (List.mem_of_getElem? (i := 43) rfl)) rfl
set_option maxRecDepth 10000 in
theorem se_X12_endless : Cond.selects yX12_endless.cls yX12_endless yX12_endless ∈ tbw := in_tb (in_t10 (List.mem_of_getElem? (i := 44) rfl)) rfl
def M_X12_becomesJust : MI := (yX12_becomesJust, cX12_becomesJust, 5, some (.boolean), [])
set_option maxRecDepth 10000 in
theorem mk_X12_becomesJust : MOk M_X12_becomesJust 2 := ⟨in_tb (in_t10 (List.mem_of_getElem? (i := 60) rfl)) rfl, rfl, ini_X12, ⟨by decide, by decide, by decide +kernel⟩, by decide⟩
set_option maxRecDepth 10000 in
theorem im_X12_becomesJust : Cond.instanceMethod yX12_becomesJust ∈ tbw := in_tb (in_t10 (List.mem_of_getElem? (i := 59) rfl)) rfl
set_option maxRecDepth 10000 in
theorem se_X12_becomesJust : Cond.selects yX12_becomesJust.cls yX12_becomesJust yX12_becomesJust ∈ tbw := in_tb (in_p8 (i := 13) rfl) rfl
def M_X12_sums : MI := (yX12_sums, cX12_sums, 6, some (.long), [])
set_option maxRecDepth 10000 in
theorem mk_X12_sums : MOk M_X12_sums 1 := ⟨in_tb (in_t10 (List.mem_of_getElem? (i := 53) rfl)) rfl, rfl, ini_X12, ⟨by decide, by decide, by decide +kernel⟩, by decide⟩
set_option maxRecDepth 10000 in
theorem im_X12_sums : Cond.instanceMethod yX12_sums ∈ tbw := in_tb (in_t10 (List.mem_of_getElem? (i := 52) rfl)) rfl
set_option maxRecDepth 10000 in
theorem se_X12_sums : Cond.selects yX12_sums.cls yX12_sums yX12_sums ∈ tbw := in_tb (in_p8 (i := 12) rfl) rfl
def M_X12_sortings : MI := (yX12_sortings, cX12_sortings, 6, some (.long), [])
set_option maxRecDepth 10000 in
theorem mk_X12_sortings : MOk M_X12_sortings 1 := ⟨in_tb (in_t10 (List.mem_of_getElem? (i := 64) rfl)) rfl, rfl, ini_X12, ⟨by decide, by decide, by decide +kernel⟩, by decide⟩
set_option maxRecDepth 10000 in
theorem im_X12_sortings : Cond.instanceMethod yX12_sortings ∈ tbw := in_tb (in_t10 (List.mem_of_getElem? (i := 63) rfl)) rfl
set_option maxRecDepth 10000 in
theorem se_X12_sortings : Cond.selects yX12_sortings.cls yX12_sortings yX12_sortings ∈ tbw := in_tb (in_p8 (i := 14) rfl) rfl
def M_X12_copies : MI := (yX12_copies, cX12_copies, 5, some (.long), [])
set_option maxRecDepth 10000 in
theorem mk_X12_copies : MOk M_X12_copies 1 := ⟨in_tb (in_t10 (List.mem_of_getElem? (i := 68) rfl)) rfl, rfl, ini_X12, ⟨by decide, by decide, by decide +kernel⟩, by decide⟩
set_option maxRecDepth 10000 in
theorem im_X12_copies : Cond.instanceMethod yX12_copies ∈ tbw := in_tb (in_t10 (List.mem_of_getElem? (i := 67) rfl)) rfl
set_option maxRecDepth 10000 in
theorem se_X12_copies : Cond.selects yX12_copies.cls yX12_copies yX12_copies ∈ tbw := in_tb (in_p8 (i := 15) rfl) rfl
def M_X12_halves : MI := (yX12_halves, cX12_halves, 5, some (.long), [])
set_option maxRecDepth 10000 in
theorem mk_X12_halves : MOk M_X12_halves 1 := ⟨in_tb (in_t10 (List.mem_of_getElem? (i := 72) rfl)) rfl, rfl, ini_X12, ⟨by decide, by decide, by decide +kernel⟩, by decide⟩
set_option maxRecDepth 10000 in
theorem im_X12_halves : Cond.instanceMethod yX12_halves ∈ tbw := in_tb (in_t10 (List.mem_of_getElem? (i := 71) rfl)) rfl
set_option maxRecDepth 10000 in
theorem se_X12_halves : Cond.selects yX12_halves.cls yX12_halves yX12_halves ∈ tbw := in_tb (in_p9 (i := 0) rfl) rfl
def M_X12_reckons : MI := (yX12_reckons, cX12_reckons, 3, some (.long), [])
set_option maxRecDepth 10000 in
theorem mk_X12_reckons : MOk M_X12_reckons 2 := ⟨in_tb (in_t10 (List.mem_of_getElem? (i := 49) rfl)) rfl, rfl, ini_X12, ⟨by decide, by decide, by decide +kernel⟩, by decide⟩
set_option maxRecDepth 10000 in
theorem im_X12_reckons : Cond.instanceMethod yX12_reckons ∈ tbw := in_tb (in_t10 (List.mem_of_getElem? (i := 47) rfl)) rfl
set_option maxRecDepth 10000 in
theorem se_X12_reckons : Cond.selects yX12_reckons.cls yX12_reckons yX12_reckons ∈ tbw := in_tb (in_t10 (List.mem_of_getElem? (i := 48) rfl)) rfl
def M_X12_allSettle : MI := (yX12_allSettle, cX12_allSettle, 4, some (.boolean), [])
set_option maxRecDepth 10000 in
theorem mk_X12_allSettle : MOk M_X12_allSettle 1 := ⟨in_tb (in_t10 (List.mem_of_getElem? (i := 80) rfl)) rfl, rfl, ini_X12, ⟨by decide, by decide, by decide +kernel⟩, by decide⟩
set_option maxRecDepth 10000 in
theorem im_X12_allSettle : Cond.instanceMethod yX12_allSettle ∈ tbw := in_tb (in_t10 (List.mem_of_getElem? (i := 79) rfl)) rfl
set_option maxRecDepth 10000 in
theorem se_X12_allSettle : Cond.selects yX12_allSettle.cls yX12_allSettle yX12_allSettle ∈ tbw := in_tb (in_p9 (i := 1) rfl) rfl
def M_X12_dropped : MI := (yX12_dropped, cX12_dropped, 5, some (.int), [])
set_option maxRecDepth 10000 in
theorem mk_X12_dropped : MOk M_X12_dropped 1 := ⟨in_tb (in_t10 (List.mem_of_getElem? (i := 76) rfl)) rfl, rfl, ini_X12, ⟨by decide, by decide, by decide +kernel⟩, by decide⟩
set_option maxRecDepth 10000 in
theorem im_X12_dropped : Cond.instanceMethod yX12_dropped ∈ tbw := in_tb (in_t10 (List.mem_of_getElem? (i := 74) rfl)) rfl
set_option maxRecDepth 10000 in
theorem se_X12_dropped : Cond.selects yX12_dropped.cls yX12_dropped yX12_dropped ∈ tbw := in_tb (in_t10 (List.mem_of_getElem? (i := 75) rfl)) rfl
def M_X12_explains : MI := (yX12_explains, cX12_explains, 11, some (.boolean), [])
set_option maxRecDepth 10000 in
theorem mk_X12_explains : MOk M_X12_explains 4 := ⟨in_tb (in_t10 (List.mem_of_getElem? (i := 95) rfl)) rfl, rfl, ini_X12, ⟨by decide, by decide, by decide +kernel⟩, by decide⟩
set_option maxRecDepth 10000 in
theorem sm_X12_explains : Cond.static yX12_explains ∈ tbw := in_tb (in_t10 (List.mem_of_getElem? (i := 94) rfl)) rfl
def M_X12_explainsAt : MI := (yX12_explainsAt, cX12_explainsAt, 6, some (.boolean), [])
set_option maxRecDepth 10000 in
theorem mk_X12_explainsAt : MOk M_X12_explainsAt 3 := ⟨in_tb (in_t10 (List.mem_of_getElem? (i := 92) rfl)) rfl, rfl, ini_X12, ⟨by decide, by decide, by decide +kernel⟩, by decide⟩
set_option maxRecDepth 10000 in
theorem im_X12_explainsAt : Cond.instanceMethod yX12_explainsAt ∈ tbw := in_tb (in_t10 (List.mem_of_getElem? (i := 91) rfl)) rfl
set_option maxRecDepth 10000 in
theorem se_X12_explainsAt : Cond.selects yX12_explainsAt.cls yX12_explainsAt yX12_explainsAt ∈ tbw := in_tb (in_p9 (i := 3) rfl) rfl
def M_X12_explainedBy : MI := (yX12_explainedBy, cX12_explainedBy, 4, some (.int), [])
set_option maxRecDepth 10000 in
theorem mk_X12_explainedBy : MOk M_X12_explainedBy 1 := ⟨in_tb (in_t10 (List.mem_of_getElem? (i := 88) rfl)) rfl, rfl, ini_X12, ⟨by decide, by decide, by decide +kernel⟩, by decide⟩
set_option maxRecDepth 10000 in
theorem im_X12_explainedBy : Cond.instanceMethod yX12_explainedBy ∈ tbw := in_tb (in_t10 (List.mem_of_getElem? (i := 87) rfl)) rfl
set_option maxRecDepth 10000 in
theorem se_X12_explainedBy : Cond.selects yX12_explainedBy.cls yX12_explainedBy yX12_explainedBy ∈ tbw := in_tb (in_p9 (i := 2) rfl) rfl
def M_X12_explained : MI := (yX12_explained, cX12_explained, 2, some (.int), [])
set_option maxRecDepth 10000 in
theorem mk_X12_explained : MOk M_X12_explained 1 := ⟨in_tb (in_t10 (List.mem_of_getElem? (i := 84) rfl)) rfl, rfl, ini_X12, ⟨by decide, by decide, by decide +kernel⟩, by decide⟩
set_option maxRecDepth 10000 in
theorem im_X12_explained : Cond.instanceMethod yX12_explained ∈ tbw := in_tb (in_t10 (List.mem_of_getElem? (i := 82) rfl)) rfl
set_option maxRecDepth 10000 in
theorem se_X12_explained : Cond.selects yX12_explained.cls yX12_explained yX12_explained ∈ tbw := in_tb (in_t10 (List.mem_of_getElem? (i := 83) rfl)) rfl
def M_X12_telling : MI := (yX12_telling, cX12_telling, 5, some (.int), [])
set_option maxRecDepth 10000 in
theorem mk_X12_telling : MOk M_X12_telling 0 := ⟨in_tb (in_t10 (List.mem_of_getElem? (i := 99) rfl)) rfl, rfl, ini_X12, ⟨by decide, by decide, by decide +kernel⟩, by decide⟩
set_option maxRecDepth 10000 in
theorem im_X12_telling : Cond.instanceMethod yX12_telling ∈ tbw := in_tb (in_t10 (List.mem_of_getElem? (i := 97) rfl)) rfl
set_option maxRecDepth 10000 in
theorem se_X12_telling : Cond.selects yX12_telling.cls yX12_telling yX12_telling ∈ tbw := in_tb (in_t10 (List.mem_of_getElem? (i := 98) rfl)) rfl
def M_X12_guess : MI := (yX12_guess, cX12_guess, 7, none, [])
set_option maxRecDepth 10000 in
theorem mk_X12_guess : MOk M_X12_guess 2 := ⟨in_tb (in_t10 (List.mem_of_getElem? (i := 107) rfl)) rfl, rfl, ini_X12, ⟨by decide, by decide, by decide +kernel⟩, by decide⟩
set_option maxRecDepth 10000 in
theorem im_X12_guess : Cond.instanceMethod yX12_guess ∈ tbw := in_tb (in_t10 (List.mem_of_getElem? (i := 106) rfl)) rfl
set_option maxRecDepth 10000 in
theorem se_X12_guess : Cond.selects yX12_guess.cls yX12_guess yX12_guess ∈ tbw := in_tb (in_p9 (i := 4) rfl) rfl
def M_X12_isAhead : MI := (yX12_isAhead, cX12_isAhead, 3, some (.boolean), [])
set_option maxRecDepth 10000 in
theorem mk_X12_isAhead : MOk M_X12_isAhead 2 := ⟨in_tb (in_t10 (List.mem_of_getElem? (i := 111) rfl)) rfl, rfl, ini_X12, ⟨by decide, by decide, by decide +kernel⟩, by decide⟩
set_option maxRecDepth 10000 in
theorem im_X12_isAhead : Cond.instanceMethod yX12_isAhead ∈ tbw := in_tb (in_t10 (List.mem_of_getElem? (i := 110) rfl)) rfl
set_option maxRecDepth 10000 in
theorem se_X12_isAhead : Cond.selects yX12_isAhead.cls yX12_isAhead yX12_isAhead ∈ tbw := in_tb (in_p9 (i := 5) rfl) rfl
def M_X12_guessed : MI := (yX12_guessed, cX12_guessed, 9, some (.long), [])
set_option maxRecDepth 10000 in
theorem mk_X12_guessed : MOk M_X12_guessed 1 := ⟨in_tb (in_t10 (List.mem_of_getElem? (i := 103) rfl)) rfl, rfl, ini_X12, ⟨by decide, by decide, by decide +kernel⟩, by decide⟩
set_option maxRecDepth 10000 in
theorem im_X12_guessed : Cond.instanceMethod yX12_guessed ∈ tbw := in_tb (in_t10 (List.mem_of_getElem? (i := 101) rfl)) rfl
set_option maxRecDepth 10000 in
theorem se_X12_guessed : Cond.selects yX12_guessed.cls yX12_guessed yX12_guessed ∈ tbw := in_tb (in_t10 (List.mem_of_getElem? (i := 102) rfl)) rfl
def M_X12_bestOf : MI := (yX12_bestOf, cX12_bestOf, 7, some (.int), [])
set_option maxRecDepth 10000 in
theorem mk_X12_bestOf : MOk M_X12_bestOf 1 := ⟨in_tb (in_t10 (List.mem_of_getElem? (i := 123) rfl)) rfl, rfl, ini_X12, ⟨by decide, by decide, by decide +kernel⟩, by decide⟩
set_option maxRecDepth 10000 in
theorem im_X12_bestOf : Cond.instanceMethod yX12_bestOf ∈ tbw := in_tb (in_t10 (List.mem_of_getElem? (i := 122) rfl)) rfl
set_option maxRecDepth 10000 in
theorem se_X12_bestOf : Cond.selects yX12_bestOf.cls yX12_bestOf yX12_bestOf ∈ tbw := in_tb (in_p9 (i := 7) rfl) rfl
def M_X12_plays : MI := (yX12_plays, cX12_plays, 5, some (.int), [])
set_option maxRecDepth 10000 in
theorem mk_X12_plays : MOk M_X12_plays 1 := ⟨in_tb (in_t10 (List.mem_of_getElem? (i := 119) rfl)) rfl, rfl, ini_X12, ⟨by decide, by decide, by decide +kernel⟩, by decide⟩
set_option maxRecDepth 10000 in
theorem im_X12_plays : Cond.instanceMethod yX12_plays ∈ tbw := in_tb (in_t10 (List.mem_of_getElem? (i := 118) rfl)) rfl
set_option maxRecDepth 10000 in
theorem se_X12_plays : Cond.selects yX12_plays.cls yX12_plays yX12_plays ∈ tbw := in_tb (in_p9 (i := 6) rfl) rfl
def M_X12_drovers : MI := (yX12_drovers, cX12_drovers, 4, some (.int), [])
set_option maxRecDepth 10000 in
theorem mk_X12_drovers : MOk M_X12_drovers 2 := ⟨in_tb (in_t10 (List.mem_of_getElem? (i := 115) rfl)) rfl, rfl, ini_X12, ⟨by decide, by decide, by decide +kernel⟩, by decide⟩
set_option maxRecDepth 10000 in
theorem im_X12_drovers : Cond.instanceMethod yX12_drovers ∈ tbw := in_tb (in_t10 (List.mem_of_getElem? (i := 113) rfl)) rfl
set_option maxRecDepth 10000 in
theorem se_X12_drovers : Cond.selects yX12_drovers.cls yX12_drovers yX12_drovers ∈ tbw := in_tb (in_t10 (List.mem_of_getElem? (i := 114) rfl)) rfl
def M_X12_best : MI := (yX12_best, cX12_best, 4, some (.int), [])
set_option maxRecDepth 10000 in
theorem mk_X12_best : MOk M_X12_best 2 := ⟨in_tb (in_t10 (List.mem_of_getElem? (i := 127) rfl)) rfl, rfl, ini_X12, ⟨by decide, by decide, by decide +kernel⟩, by decide⟩
set_option maxRecDepth 10000 in
theorem im_X12_best : Cond.instanceMethod yX12_best ∈ tbw := in_tb (in_t10 (List.mem_of_getElem? (i := 125) rfl)) rfl
set_option maxRecDepth 10000 in
theorem se_X12_best : Cond.selects yX12_best.cls yX12_best yX12_best ∈ tbw := in_tb (in_t10 (List.mem_of_getElem? (i := 126) rfl)) rfl
def M_X12_sorts : MI := (yX12_sorts, cX12_sorts, 4, some (.int), [])
set_option maxRecDepth 10000 in
theorem mk_X12_sorts : MOk M_X12_sorts 1 := ⟨in_tb (in_t10 (List.mem_of_getElem? (i := 131) rfl)) rfl, rfl, ini_X12, ⟨by decide, by decide, by decide +kernel⟩, by decide⟩
set_option maxRecDepth 10000 in
theorem im_X12_sorts : Cond.instanceMethod yX12_sorts ∈ tbw := in_tb (in_t10 (List.mem_of_getElem? (i := 129) rfl)) rfl
set_option maxRecDepth 10000 in
theorem se_X12_sorts : Cond.selects yX12_sorts.cls yX12_sorts yX12_sorts ∈ tbw := in_tb (in_t10 (List.mem_of_getElem? (i := 130) rfl)) rfl
def M_X12_seed : MI := (yX12_seed, cX12_seed, 3, some (.int), [])
set_option maxRecDepth 10000 in
theorem mk_X12_seed : MOk M_X12_seed 1 := ⟨in_tb (in_t10 (List.mem_of_getElem? (i := 135) rfl)) rfl, rfl, ini_X12, ⟨by decide, by decide, by decide +kernel⟩, by decide⟩
set_option maxRecDepth 10000 in
theorem im_X12_seed : Cond.instanceMethod yX12_seed ∈ tbw := in_tb (in_t10 (List.mem_of_getElem? (i := 133) rfl)) rfl
set_option maxRecDepth 10000 in
theorem se_X12_seed : Cond.selects yX12_seed.cls yX12_seed yX12_seed ∈ tbw := in_tb (in_t10 (List.mem_of_getElem? (i := 134) rfl)) rfl
def M_X12_count : MI := (yX12_count, cX12_count, 4, some (.int), [])
set_option maxRecDepth 10000 in
theorem mk_X12_count : MOk M_X12_count 1 := ⟨in_tb (in_t10 (List.mem_of_getElem? (i := 139) rfl)) rfl, rfl, ini_X12, ⟨by decide, by decide, by decide +kernel⟩, by decide⟩
set_option maxRecDepth 10000 in
theorem im_X12_count : Cond.instanceMethod yX12_count ∈ tbw := in_tb (in_t10 (List.mem_of_getElem? (i := 137) rfl)) rfl
set_option maxRecDepth 10000 in
theorem se_X12_count : Cond.selects yX12_count.cls yX12_count yX12_count ∈ tbw := in_tb (in_t10 (List.mem_of_getElem? (i := 138) rfl)) rfl
def M_J6_numberOfLeadingZeros_0f7a4 : MI := (yJ6_numberOfLeadingZeros_0f7a4, cJ6_numberOfLeadingZeros_0f7a4, 2, some (.int), [])
set_option maxRecDepth 10000 in
theorem mk_J6_numberOfLeadingZeros_0f7a4 : MOk M_J6_numberOfLeadingZeros_0f7a4 1 := ⟨in_tb (in_t8 (List.mem_of_getElem? (i := 131) rfl)) rfl, rfl, ini_J6, ⟨by decide, by decide, by decide +kernel⟩, by decide⟩
set_option maxRecDepth 10000 in
theorem sm_J6_numberOfLeadingZeros_0f7a4 : Cond.static yJ6_numberOfLeadingZeros_0f7a4 ∈ tbw := in_tb (in_t8 (List.mem_of_getElem? (i := 130) rfl)) rfl
def M_J6_bitCount_0f7a4 : MI := (yJ6_bitCount_0f7a4, cJ6_bitCount_0f7a4, 1, some (.int), [])
set_option maxRecDepth 10000 in
theorem mk_J6_bitCount_0f7a4 : MOk M_J6_bitCount_0f7a4 1 := ⟨in_tb (in_t3 (List.mem_of_getElem? (i := 92) rfl)) rfl, rfl, ini_J6, ⟨by decide, by decide, by decide +kernel⟩, by decide⟩
set_option maxRecDepth 10000 in
theorem sm_J6_bitCount_0f7a4 : Cond.static yJ6_bitCount_0f7a4 ∈ tbw := in_tb (in_t3 (List.mem_of_getElem? (i := 91) rfl)) rfl
def M_J13_numberOfLeadingZeros_95d88 : MI := (yJ13_numberOfLeadingZeros_95d88, cJ13_numberOfLeadingZeros_95d88, 3, some (.int), [])
set_option maxRecDepth 10000 in
theorem mk_J13_numberOfLeadingZeros_95d88 : MOk M_J13_numberOfLeadingZeros_95d88 1 := ⟨in_tb (in_t8 (List.mem_of_getElem? (i := 128) rfl)) rfl, rfl, ini_J13, ⟨by decide, by decide, by decide +kernel⟩, by decide⟩
set_option maxRecDepth 10000 in
theorem sm_J13_numberOfLeadingZeros_95d88 : Cond.static yJ13_numberOfLeadingZeros_95d88 ∈ tbw := in_tb (in_t8 (List.mem_of_getElem? (i := 127) rfl)) rfl
def M_J9_max_7cf53 : MI := (yJ9_max_7cf53, cJ9_max_7cf53, 2, some (.int), [])
set_option maxRecDepth 10000 in
theorem mk_J9_max_7cf53 : MOk M_J9_max_7cf53 2 := ⟨in_tb (in_t6 (List.mem_of_getElem? (i := 47) rfl)) rfl, rfl, ini_J9, ⟨by decide, by decide, by decide +kernel⟩, by decide⟩
set_option maxRecDepth 10000 in
theorem sm_J9_max_7cf53 : Cond.static yJ9_max_7cf53 ∈ tbw := in_tb (in_t6 (List.mem_of_getElem? (i := 46) rfl)) rfl
def M_J9_max_f86c9 : MI := (yJ9_max_f86c9, cJ9_max_f86c9, 4, some (.long), [])
set_option maxRecDepth 10000 in
theorem mk_J9_max_f86c9 : MOk M_J9_max_f86c9 2 := ⟨in_tb (in_t6 (List.mem_of_getElem? (i := 106) rfl)) rfl, rfl, ini_J9, ⟨by decide, by decide, by decide +kernel⟩, by decide⟩
set_option maxRecDepth 10000 in
theorem sm_J9_max_f86c9 : Cond.static yJ9_max_f86c9 ∈ tbw := in_tb (in_t6 (List.mem_of_getElem? (i := 105) rfl)) rfl
def M_J9_min_7cf53 : MI := (yJ9_min_7cf53, cJ9_min_7cf53, 2, some (.int), [])
set_option maxRecDepth 10000 in
theorem mk_J9_min_7cf53 : MOk M_J9_min_7cf53 2 := ⟨in_tb (in_t3 (List.mem_of_getElem? (i := 89) rfl)) rfl, rfl, ini_J9, ⟨by decide, by decide, by decide +kernel⟩, by decide⟩
set_option maxRecDepth 10000 in
theorem sm_J9_min_7cf53 : Cond.static yJ9_min_7cf53 ∈ tbw := in_tb (in_t3 (List.mem_of_getElem? (i := 88) rfl)) rfl
def M_J9_min_f86c9 : MI := (yJ9_min_f86c9, cJ9_min_f86c9, 4, some (.long), [])
set_option maxRecDepth 10000 in
theorem mk_J9_min_f86c9 : MOk M_J9_min_f86c9 2 := ⟨in_tb (in_t6 (List.mem_of_getElem? (i := 109) rfl)) rfl, rfl, ini_J9, ⟨by decide, by decide, by decide +kernel⟩, by decide⟩
set_option maxRecDepth 10000 in
theorem sm_J9_min_f86c9 : Cond.static yJ9_min_f86c9 ∈ tbw := in_tb (in_t6 (List.mem_of_getElem? (i := 108) rfl)) rfl
def M_J0_length_8abf5 : MI := (yJ0_length_8abf5, cJ0_length_8abf5, 1, some (.int), [])
set_option maxRecDepth 10000 in
theorem mk_J0_length_8abf5 : MOk M_J0_length_8abf5 0 := ⟨in_tb (in_t3 (List.mem_of_getElem? (i := 217) rfl)) rfl, rfl, ini_J0, ⟨by decide, by decide, by decide +kernel⟩, by decide⟩
set_option maxRecDepth 10000 in
theorem im_J0_length_8abf5 : Cond.instanceMethod yJ0_length_8abf5 ∈ tbw := in_tb (in_t3 (List.mem_of_getElem? (i := 215) rfl)) rfl
set_option maxRecDepth 10000 in
theorem se_J0_length_8abf5 : Cond.selects yJ0_length_8abf5.cls yJ0_length_8abf5 yJ0_length_8abf5 ∈ tbw := in_tb (in_t3 (List.mem_of_getElem? (i := 216) rfl)) rfl
def M_J0_charAt_5068e : MI := (yJ0_charAt_5068e, cJ0_charAt_5068e, 2, some (.char), [])
set_option maxRecDepth 10000 in
theorem mk_J0_charAt_5068e : MOk M_J0_charAt_5068e 1 := ⟨in_tb (in_t3 (List.mem_of_getElem? (i := 227) rfl)) rfl, rfl, ini_J0, ⟨by decide, by decide, by decide +kernel⟩, by decide⟩
set_option maxRecDepth 10000 in
theorem im_J0_charAt_5068e : Cond.instanceMethod yJ0_charAt_5068e ∈ tbw := in_tb (in_t3 (List.mem_of_getElem? (i := 225) rfl)) rfl
set_option maxRecDepth 10000 in
theorem se_J0_charAt_5068e : Cond.selects yJ0_charAt_5068e.cls yJ0_charAt_5068e yJ0_charAt_5068e ∈ tbw := in_tb (in_t3 (List.mem_of_getElem? (i := 226) rfl)) rfl
def M_J0_coder_7d493 : MI := (yJ0_coder_7d493, cJ0_coder_7d493, 1, some (.byte), [])
set_option maxRecDepth 10000 in
theorem mk_J0_coder_7d493 : MOk M_J0_coder_7d493 0 := ⟨in_tb (in_t3 (List.mem_of_getElem? (i := 221) rfl)) rfl, rfl, ini_J0, ⟨by decide, by decide, by decide +kernel⟩, by decide⟩
set_option maxRecDepth 10000 in
theorem im_J0_coder_7d493 : Cond.instanceMethod yJ0_coder_7d493 ∈ tbw := in_tb (in_t3 (List.mem_of_getElem? (i := 219) rfl)) rfl
set_option maxRecDepth 10000 in
theorem se_J0_coder_7d493 : Cond.selects yJ0_coder_7d493.cls yJ0_coder_7d493 yJ0_coder_7d493 ∈ tbw := in_tb (in_t3 (List.mem_of_getElem? (i := 220) rfl)) rfl
def M_J0_isLatin1_aae02 : MI := (yJ0_isLatin1_aae02, cJ0_isLatin1_aae02, 1, some (.boolean), [])
set_option maxRecDepth 10000 in
theorem mk_J0_isLatin1_aae02 : MOk M_J0_isLatin1_aae02 0 := ⟨in_tb (in_t3 (List.mem_of_getElem? (i := 231) rfl)) rfl, rfl, ini_J0, ⟨by decide, by decide, by decide +kernel⟩, by decide⟩
set_option maxRecDepth 10000 in
theorem im_J0_isLatin1_aae02 : Cond.instanceMethod yJ0_isLatin1_aae02 ∈ tbw := in_tb (in_t3 (List.mem_of_getElem? (i := 229) rfl)) rfl
set_option maxRecDepth 10000 in
theorem se_J0_isLatin1_aae02 : Cond.selects yJ0_isLatin1_aae02.cls yJ0_isLatin1_aae02 yJ0_isLatin1_aae02 ∈ tbw := in_tb (in_t3 (List.mem_of_getElem? (i := 230) rfl)) rfl
def M_J0_checkIndex_df160 : MI := (yJ0_checkIndex_df160, cJ0_checkIndex_df160, 2, none, [])
set_option maxRecDepth 10000 in
theorem mk_J0_checkIndex_df160 : MOk M_J0_checkIndex_df160 2 := ⟨in_tb (in_t3 (List.mem_of_getElem? (i := 237) rfl)) rfl, rfl, ini_J0, ⟨by decide, by decide, by decide +kernel⟩, by decide⟩
set_option maxRecDepth 10000 in
theorem sm_J0_checkIndex_df160 : Cond.static yJ0_checkIndex_df160 ∈ tbw := in_tb (in_t3 (List.mem_of_getElem? (i := 236) rfl)) rfl
def M_J1_charAt_3b067 : MI := (yJ1_charAt_3b067, cJ1_charAt_3b067, 2, some (.char), [])
set_option maxRecDepth 10000 in
theorem mk_J1_charAt_3b067 : MOk M_J1_charAt_3b067 2 := ⟨in_tb (in_t3 (List.mem_of_getElem? (i := 234) rfl)) rfl, rfl, ini_J1, ⟨by decide, by decide, by decide +kernel⟩, by decide⟩
set_option maxRecDepth 10000 in
theorem sm_J1_charAt_3b067 : Cond.static yJ1_charAt_3b067 ∈ tbw := in_tb (in_t3 (List.mem_of_getElem? (i := 233) rfl)) rfl
def M_J2_getChar_3b067 : MI := (yJ2_getChar_3b067, cJ2_getChar_3b067, 2, some (.char), [])
set_option maxRecDepth 10000 in
theorem mk_J2_getChar_3b067 : MOk M_J2_getChar_3b067 2 := ⟨in_tb (in_t4 (List.mem_of_getElem? (i := 15) rfl)) rfl, rfl, ini_J2, ⟨by decide, by decide, by decide +kernel⟩, by decide⟩
set_option maxRecDepth 10000 in
theorem sm_J2_getChar_3b067 : Cond.static yJ2_getChar_3b067 ∈ tbw := in_tb (in_t4 (List.mem_of_getElem? (i := 14) rfl)) rfl
def M_J2_length_9d52b : MI := (yJ2_length_9d52b, cJ2_length_9d52b, 1, some (.int), [])
set_option maxRecDepth 10000 in
theorem mk_J2_length_9d52b : MOk M_J2_length_9d52b 1 := ⟨in_tb (in_t4 (List.mem_of_getElem? (i := 11) rfl)) rfl, rfl, ini_J2, ⟨by decide, by decide, by decide +kernel⟩, by decide⟩
set_option maxRecDepth 10000 in
theorem sm_J2_length_9d52b : Cond.static yJ2_length_9d52b ∈ tbw := in_tb (in_t4 (List.mem_of_getElem? (i := 10) rfl)) rfl
def M_J2_charAt_3b067 : MI := (yJ2_charAt_3b067, cJ2_charAt_3b067, 2, some (.char), [])
set_option maxRecDepth 10000 in
theorem mk_J2_charAt_3b067 : MOk M_J2_charAt_3b067 2 := ⟨in_tb (in_t4 (List.mem_of_getElem? (i := 5) rfl)) rfl, rfl, ini_J2, ⟨by decide, by decide, by decide +kernel⟩, by decide⟩
set_option maxRecDepth 10000 in
theorem sm_J2_charAt_3b067 : Cond.static yJ2_charAt_3b067 ∈ tbw := in_tb (in_t4 (List.mem_of_getElem? (i := 4) rfl)) rfl
def M_J2_checkIndex_2214a : MI := (yJ2_checkIndex_2214a, cJ2_checkIndex_2214a, 2, none, [])
set_option maxRecDepth 10000 in
theorem mk_J2_checkIndex_2214a : MOk M_J2_checkIndex_2214a 2 := ⟨in_tb (in_t4 (List.mem_of_getElem? (i := 8) rfl)) rfl, rfl, ini_J2, ⟨by decide, by decide, by decide +kernel⟩, by decide⟩
set_option maxRecDepth 10000 in
theorem sm_J2_checkIndex_2214a : Cond.static yJ2_checkIndex_2214a ∈ tbw := in_tb (in_t4 (List.mem_of_getElem? (i := 7) rfl)) rfl
def M_J7_fill_53178 : MI := (yJ7_fill_53178, cJ7_fill_53178, 4, none, [])
set_option maxRecDepth 10000 in
theorem mk_J7_fill_53178 : MOk M_J7_fill_53178 2 := ⟨in_tb (in_t1 (List.mem_of_getElem? (i := 153) rfl)) rfl, rfl, ini_J7, ⟨by decide, by decide, by decide +kernel⟩, by decide⟩
set_option maxRecDepth 10000 in
theorem sm_J7_fill_53178 : Cond.static yJ7_fill_53178 ∈ tbw := in_tb (in_t1 (List.mem_of_getElem? (i := 152) rfl)) rfl
def M_J3_checkIndex_8e157 : MI := (yJ3_checkIndex_8e157, cJ3_checkIndex_8e157, 3, some (.int), [])
set_option maxRecDepth 10000 in
theorem mk_J3_checkIndex_8e157 : MOk M_J3_checkIndex_8e157 3 := ⟨in_tb (in_t4 (List.mem_of_getElem? (i := 2) rfl)) rfl, rfl, ini_J3, ⟨by decide, by decide, by decide +kernel⟩, by decide⟩
set_option maxRecDepth 10000 in
theorem sm_J3_checkIndex_8e157 : Cond.static yJ3_checkIndex_8e157 ∈ tbw := in_tb (in_t4 (List.mem_of_getElem? (i := 1) rfl)) rfl
def M_L_valley : MI := (yL_valley, cL_valley, 3, some (.int), [(0, 8, 11, 13), (0, 8, 14, 15)])
set_option maxRecDepth 10000 in
theorem sm_L_valley : Cond.static yL_valley ∈ tbw := in_tb (in_t3 (List.mem_of_getElem? (i := 185) rfl)) rfl
def M_L_law : MI := (yL_law, cL_law, 3, some (.int), [(0, 8, 11, 13)])
set_option maxRecDepth 10000 in
theorem sm_L_law : Cond.static yL_law ∈ tbw := in_tb (in_t4 (List.mem_of_getElem? (i := 189) rfl)) rfl
def M_L_rule : MI := (yL_rule, cL_rule, 5, some (.int), [(0, 9, 12, 24)])
set_option maxRecDepth 10000 in
theorem sm_L_rule : Cond.static yL_rule ∈ tbw := in_tb (in_t5 (List.mem_of_getElem? (i := 1) rfl)) rfl
def M_L_field : MI := (yL_field, cL_field, 4, some (.int), [(0, 8, 11, 24)])
set_option maxRecDepth 10000 in
theorem sm_L_field : Cond.static yL_field ∈ tbw := in_tb (in_t5 (List.mem_of_getElem? (i := 28) rfl)) rfl
def M_L_seen : MI := (yL_seen, cL_seen, 5, some (.int), [(0, 9, 12, 24)])
set_option maxRecDepth 10000 in
theorem sm_L_seen : Cond.static yL_seen ∈ tbw := in_tb (in_t5 (List.mem_of_getElem? (i := 39) rfl)) rfl
def M_L_beast : MI := (yL_beast, cL_beast, 6, some (.int), [(0, 11, 14, 13)])
set_option maxRecDepth 10000 in
theorem sm_L_beast : Cond.static yL_beast ∈ tbw := in_tb (in_t5 (List.mem_of_getElem? (i := 50) rfl)) rfl
def M_L_steps : MI := (yL_steps, cL_steps, 4, some (.int), [(0, 9, 12, 24)])
set_option maxRecDepth 10000 in
theorem sm_L_steps : Cond.static yL_steps ∈ tbw := in_tb (in_t5 (List.mem_of_getElem? (i := 63) rfl)) rfl
def M_L_maker : MI := (yL_maker, cL_maker, 6, some (.int), [(0, 12, 15, 24), (0, 12, 19, 45)])
set_option maxRecDepth 10000 in
theorem sm_L_maker : Cond.static yL_maker ∈ tbw := in_tb (in_t5 (List.mem_of_getElem? (i := 70) rfl)) rfl
def M_L_fits : MI := (yL_fits, cL_fits, 7, some (.int), [(0, 20, 23, 24), (0, 20, 27, 13)])
set_option maxRecDepth 10000 in
theorem sm_L_fits : Cond.static yL_fits ∈ tbw := in_tb (in_t5 (List.mem_of_getElem? (i := 96) rfl)) rfl
def M_L_use : MI := (yL_use, cL_use, 6, some (.int), [(0, 11, 14, 24), (0, 11, 18, 55)])
set_option maxRecDepth 10000 in
theorem sm_L_use : Cond.static yL_use ∈ tbw := in_tb (in_t5 (List.mem_of_getElem? (i := 104) rfl)) rfl
def M_L_run : MI := (yL_run, cL_run, 5, some (.int), [(0, 10, 13, 24), (0, 10, 17, 13)])
set_option maxRecDepth 10000 in
theorem sm_L_run : Cond.static yL_run ∈ tbw := in_tb (in_t5 (List.mem_of_getElem? (i := 148) rfl)) rfl
def M_L_put : MI := (yL_put, cL_put, 6, some (.int), [(0, 10, 13, 24), (0, 10, 17, 13)])
set_option maxRecDepth 10000 in
theorem sm_L_put : Cond.static yL_put ∈ tbw := in_tb (in_t5 (List.mem_of_getElem? (i := 162) rfl)) rfl
def M_L_add : MI := (yL_add, cL_add, 7, some (.int), [(0, 11, 14, 13), (0, 11, 18, 15)])
set_option maxRecDepth 10000 in
theorem sm_L_add : Cond.static yL_add ∈ tbw := in_tb (in_t5 (List.mem_of_getElem? (i := 170) rfl)) rfl
def M_L_drop : MI := (yL_drop, cL_drop, 4, some (.int), [(0, 9, 12, 24)])
set_option maxRecDepth 10000 in
theorem sm_L_drop : Cond.static yL_drop ∈ tbw := in_tb (in_t5 (List.mem_of_getElem? (i := 182) rfl)) rfl
def M_L_years : MI := (yL_years, cL_years, 5, some (.int), [(0, 10, 13, 24), (0, 10, 17, 13)])
set_option maxRecDepth 10000 in
theorem sm_L_years : Cond.static yL_years ∈ tbw := in_tb (in_t5 (List.mem_of_getElem? (i := 190) rfl)) rfl
def M_L_settles : MI := (yL_settles, cL_settles, 7, some (.int), [(0, 12, 15, 13)])
set_option maxRecDepth 10000 in
theorem sm_L_settles : Cond.static yL_settles ∈ tbw := in_tb (in_t5 (List.mem_of_getElem? (i := 210) rfl)) rfl
def M_L_again : MI := (yL_again, cL_again, 6, some (.int), [(0, 11, 14, 13)])
set_option maxRecDepth 10000 in
theorem sm_L_again : Cond.static yL_again ∈ tbw := in_tb (in_t5 (List.mem_of_getElem? (i := 217) rfl)) rfl
def M_L_alike : MI := (yL_alike, cL_alike, 7, some (.int), [(0, 18, 21, 13)])
set_option maxRecDepth 10000 in
theorem sm_L_alike : Cond.static yL_alike ∈ tbw := in_tb (in_t6 (List.mem_of_getElem? (i := 7) rfl)) rfl
def M_L_becomes : MI := (yL_becomes, cL_becomes, 7, some (.int), [(0, 12, 15, 13), (0, 12, 19, 45)])
set_option maxRecDepth 10000 in
theorem sm_L_becomes : Cond.static yL_becomes ∈ tbw := in_tb (in_t6 (List.mem_of_getElem? (i := 14) rfl)) rfl
def M_L_fewest : MI := (yL_fewest, cL_fewest, 7, some (.int), [(0, 11, 14, 13)])
set_option maxRecDepth 10000 in
theorem sm_L_fewest : Cond.static yL_fewest ∈ tbw := in_tb (in_t6 (List.mem_of_getElem? (i := 62) rfl)) rfl
def M_L_meets : MI := (yL_meets, cL_meets, 9, some (.int), [(0, 14, 17, 13)])
set_option maxRecDepth 10000 in
theorem sm_L_meets : Cond.static yL_meets ∈ tbw := in_tb (in_t6 (List.mem_of_getElem? (i := 71) rfl)) rfl
def M_L_overlaps : MI := (yL_overlaps, cL_overlaps, 4, some (.int), [(0, 8, 11, 45)])
set_option maxRecDepth 10000 in
theorem sm_L_overlaps : Cond.static yL_overlaps ∈ tbw := in_tb (in_t6 (List.mem_of_getElem? (i := 78) rfl)) rfl
def M_L_complete : MI := (yL_complete, cL_complete, 3, some (.int), [(0, 8, 11, 15)])
set_option maxRecDepth 10000 in
theorem sm_L_complete : Cond.static yL_complete ∈ tbw := in_tb (in_t6 (List.mem_of_getElem? (i := 112) rfl)) rfl
def M_L_never : MI := (yL_never, cL_never, 8, some (.int), [(0, 13, 16, 13), (0, 13, 20, 24)])
set_option maxRecDepth 10000 in
theorem sm_L_never : Cond.static yL_never ∈ tbw := in_tb (in_t6 (List.mem_of_getElem? (i := 119) rfl)) rfl
def M_L_falls : MI := (yL_falls, cL_falls, 5, some (.int), [(0, 10, 13, 13), (0, 10, 17, 24)])
set_option maxRecDepth 10000 in
theorem sm_L_falls : Cond.static yL_falls ∈ tbw := in_tb (in_t6 (List.mem_of_getElem? (i := 175) rfl)) rfl
def M_L_light : MI := (yL_light, cL_light, 5, some (.int), [(0, 9, 12, 13)])
set_option maxRecDepth 10000 in
theorem sm_L_light : Cond.static yL_light ∈ tbw := in_tb (in_t6 (List.mem_of_getElem? (i := 186) rfl)) rfl
def M_L_loss : MI := (yL_loss, cL_loss, 4, some (.int), [(0, 9, 12, 24)])
set_option maxRecDepth 10000 in
theorem sm_L_loss : Cond.static yL_loss ∈ tbw := in_tb (in_t6 (List.mem_of_getElem? (i := 197) rfl)) rfl
def M_L_reckons : MI := (yL_reckons, cL_reckons, 5, some (.int), [(0, 9, 12, 13)])
set_option maxRecDepth 10000 in
theorem sm_L_reckons : Cond.static yL_reckons ∈ tbw := in_tb (in_t6 (List.mem_of_getElem? (i := 204) rfl)) rfl
def M_L_explained : MI := (yL_explained, cL_explained, 4, some (.int), [(0, 9, 12, 24)])
set_option maxRecDepth 10000 in
theorem sm_L_explained : Cond.static yL_explained ∈ tbw := in_tb (in_t6 (List.mem_of_getElem? (i := 228) rfl)) rfl
def M_L_guessed : MI := (yL_guessed, cL_guessed, 4, some (.int), [(0, 8, 11, 45)])
set_option maxRecDepth 10000 in
theorem sm_L_guessed : Cond.static yL_guessed ∈ tbw := in_tb (in_t6 (List.mem_of_getElem? (i := 236) rfl)) rfl
def M_L_drovers : MI := (yL_drovers, cL_drovers, 6, some (.int), [(0, 11, 14, 13)])
set_option maxRecDepth 10000 in
theorem sm_L_drovers : Cond.static yL_drovers ∈ tbw := in_tb (in_t7 (List.mem_of_getElem? (i := 23) rfl)) rfl
def M_L_best : MI := (yL_best, cL_best, 6, some (.int), [(0, 11, 14, 13)])
set_option maxRecDepth 10000 in
theorem sm_L_best : Cond.static yL_best ∈ tbw := in_tb (in_t7 (List.mem_of_getElem? (i := 47) rfl)) rfl
def M_L_sorts : MI := (yL_sorts, cL_sorts, 4, some (.int), [(0, 9, 12, 45)])
set_option maxRecDepth 10000 in
theorem sm_L_sorts : Cond.static yL_sorts ∈ tbw := in_tb (in_t7 (List.mem_of_getElem? (i := 54) rfl)) rfl
set_option maxRecDepth 10000 in
theorem fl_X0_9 : FLk RX0 9 0 0 := ⟨⟨in_tb (in_t2 (List.mem_of_getElem? (i := 140) rfl)) rfl, by decide⟩, by decide⟩
set_option maxRecDepth 10000 in
theorem fl_X0_15 : FLk RX0 15 0 1 := ⟨⟨in_tb (in_t2 (List.mem_of_getElem? (i := 142) rfl)) rfl, by decide⟩, by decide⟩
set_option maxRecDepth 10000 in
theorem cn_X0_18 : Cond.constantLong RX0 18 (-1) ∈ tbw := in_tb (in_t6 (List.mem_of_getElem? (i := 92) rfl)) rfl
set_option maxRecDepth 10000 in
theorem fl_X0_20 : FLk RX0 20 0 2 := ⟨⟨in_tb (in_t2 (List.mem_of_getElem? (i := 144) rfl)) rfl, by decide⟩, by decide⟩
set_option maxRecDepth 10000 in
theorem fl_X0_24 : FLk RX0 24 0 3 := ⟨⟨in_tb (in_t2 (List.mem_of_getElem? (i := 146) rfl)) rfl, by decide⟩, by decide⟩
set_option maxRecDepth 10000 in
theorem fl_X0_27 : FLk RX0 27 0 4 := ⟨⟨in_tb (in_t2 (List.mem_of_getElem? (i := 148) rfl)) rfl, by decide⟩, by decide⟩
set_option maxRecDepth 10000 in
theorem fl_X0_30 : FLk RX0 30 0 5 := ⟨⟨in_tb (in_t2 (List.mem_of_getElem? (i := 150) rfl)) rfl, by decide⟩, by decide⟩
set_option maxRecDepth 10000 in
theorem fl_X0_34 : FLk RX0 34 10 0 := ⟨⟨in_tb (in_t1 (List.mem_of_getElem? (i := 236) rfl)) rfl, by decide⟩, by decide⟩
set_option maxRecDepth 10000 in
theorem fl_X0_40 : FLk RX0 40 6 0 := ⟨⟨in_tb (in_t1 (List.mem_of_getElem? (i := 88) rfl)) rfl, by decide⟩, by decide⟩
set_option maxRecDepth 10000 in
theorem fl_X0_45 : FLk RX0 45 6 3 := ⟨⟨in_tb (in_t1 (List.mem_of_getElem? (i := 105) rfl)) rfl, by decide⟩, by decide⟩
set_option maxRecDepth 10000 in
theorem lk_X0_49 : LkS RX0 49 M_X0_endBegins := ⟨in_tb (in_t6 (List.mem_of_getElem? (i := 93) rfl)) rfl, sm_X0_endBegins⟩
set_option maxRecDepth 10000 in
theorem fl_X0_53 : FLk RX0 53 6 1 := ⟨⟨in_tb (in_t1 (List.mem_of_getElem? (i := 94) rfl)) rfl, by decide⟩, by decide⟩
set_option maxRecDepth 10000 in
theorem lk_X0_57 : LkSN RX0 57 M_X11_withPart := ⟨⟨_, in_nw (in_t6 (List.mem_of_getElem? (i := 97) rfl)) rfl⟩, sm_X11_withPart⟩
set_option maxRecDepth 10000 in
theorem lk_X0_61 : LkV RX0 61 M_X0_meet := ⟨in_tb (in_t6 (List.mem_of_getElem? (i := 98) rfl)) rfl, im_X0_meet, se_X0_meet⟩
set_option maxRecDepth 10000 in
theorem lk_X0_65 : LkSN RX0 65 M_X11_standsIn := ⟨⟨_, in_nw (in_t6 (List.mem_of_getElem? (i := 110) rfl)) rfl⟩, sm_X11_standsIn⟩
set_option maxRecDepth 10000 in
theorem lk_X0_69 : LkSN RX0 69 M_X11_figures := ⟨⟨_, in_nw (in_t6 (List.mem_of_getElem? (i := 96) rfl)) rfl⟩, sm_X11_figures⟩
set_option maxRecDepth 10000 in
theorem lk_X0_73 : LkV RX0 73 M_X10_afterTurn := ⟨in_tb (in_t6 (List.mem_of_getElem? (i := 102) rfl)) rfl, im_X10_afterTurn, se_X10_afterTurn⟩
set_option maxRecDepth 10000 in
theorem lk_X0_77 : LkV RX0 77 M_X10_settle := ⟨in_tb (in_t6 (List.mem_of_getElem? (i := 103) rfl)) rfl, im_X10_settle, se_X10_settle⟩
set_option maxRecDepth 10000 in
theorem lk_X0_80 : LkS RX0 80 M_J9_max_f86c9 := ⟨in_tb (in_t6 (List.mem_of_getElem? (i := 104) rfl)) rfl, sm_J9_max_f86c9⟩
set_option maxRecDepth 10000 in
theorem lk_X0_86 : LkS RX0 86 M_J9_min_f86c9 := ⟨in_tb (in_t6 (List.mem_of_getElem? (i := 107) rfl)) rfl, sm_J9_min_f86c9⟩
set_option maxRecDepth 10000 in
theorem fl_X1_9 : FLk RX1 9 1 0 := ⟨⟨in_tb (in_t1 (List.mem_of_getElem? (i := 128) rfl)) rfl, by decide⟩, by decide⟩
set_option maxRecDepth 10000 in
theorem fl_X1_15 : FLk RX1 15 1 2 := ⟨⟨in_tb (in_t1 (List.mem_of_getElem? (i := 136) rfl)) rfl, by decide⟩, by decide⟩
set_option maxRecDepth 10000 in
theorem fl_X1_19 : FLk RX1 19 1 3 := ⟨⟨in_tb (in_t1 (List.mem_of_getElem? (i := 139) rfl)) rfl, by decide⟩, by decide⟩
set_option maxRecDepth 10000 in
theorem fl_X1_22 : FLk RX1 22 1 1 := ⟨⟨in_tb (in_t1 (List.mem_of_getElem? (i := 132) rfl)) rfl, by decide⟩, by decide⟩
set_option maxRecDepth 10000 in
theorem lk_X1_26 : LkV RX1 26 M_X1_takeMakers := ⟨in_tb (in_t3 (List.mem_of_getElem? (i := 148) rfl)) rfl, im_X1_takeMakers, se_X1_takeMakers⟩
set_option maxRecDepth 10000 in
theorem lk_X1_36 : LkS RX1 36 M_J7_fill_53178 := ⟨in_tb (in_t4 (List.mem_of_getElem? (i := 65) rfl)) rfl, sm_J7_fill_53178⟩
set_option maxRecDepth 10000 in
theorem fl_X2_9 : FLk RX2 9 2 2 := ⟨⟨in_tb (in_t2 (List.mem_of_getElem? (i := 85) rfl)) rfl, by decide⟩, by decide⟩
set_option maxRecDepth 10000 in
theorem fl_X2_15 : FLk RX2 15 2 3 := ⟨⟨in_tb (in_t2 (List.mem_of_getElem? (i := 86) rfl)) rfl, by decide⟩, by decide⟩
set_option maxRecDepth 10000 in
theorem lk_X2_18 : LkS RX2 18 M_J7_fill_53178 := ⟨in_tb (in_t7 (List.mem_of_getElem? (i := 37) rfl)) rfl, sm_J7_fill_53178⟩
set_option maxRecDepth 10000 in
theorem fl_X2_24 : FLk RX2 24 4 0 := ⟨⟨in_tb (in_t2 (List.mem_of_getElem? (i := 51) rfl)) rfl, by decide⟩, by decide⟩
set_option maxRecDepth 10000 in
theorem fl_X2_30 : FLk RX2 30 4 2 := ⟨⟨in_tb (in_t2 (List.mem_of_getElem? (i := 57) rfl)) rfl, by decide⟩, by decide⟩
set_option maxRecDepth 10000 in
theorem fl_X2_33 : FLk RX2 33 4 1 := ⟨⟨in_tb (in_t2 (List.mem_of_getElem? (i := 54) rfl)) rfl, by decide⟩, by decide⟩
set_option maxRecDepth 10000 in
theorem lk_X2_37 : LkV RX2 37 M_X2_weigh := ⟨in_tb (in_t7 (List.mem_of_getElem? (i := 38) rfl)) rfl, im_X2_weigh, se_X2_weigh⟩
set_option maxRecDepth 10000 in
theorem fl_X2_41 : FLk RX2 41 2 0 := ⟨⟨in_tb (in_t2 (List.mem_of_getElem? (i := 81) rfl)) rfl, by decide⟩, by decide⟩
set_option maxRecDepth 10000 in
theorem lk_X2_50 : LkV RX2 50 M_X10_listTurns := ⟨in_tb (in_t7 (List.mem_of_getElem? (i := 42) rfl)) rfl, im_X10_listTurns, se_X10_listTurns⟩
set_option maxRecDepth 10000 in
theorem fl_X2_56 : FLk RX2 56 10 7 := ⟨⟨in_tb (in_t2 (List.mem_of_getElem? (i := 6) rfl)) rfl, by decide⟩, by decide⟩
set_option maxRecDepth 10000 in
theorem fl_X2_59 : FLk RX2 59 2 1 := ⟨⟨in_tb (in_t2 (List.mem_of_getElem? (i := 83) rfl)) rfl, by decide⟩, by decide⟩
set_option maxRecDepth 10000 in
theorem lk_X2_62 : LkV RX2 62 M_X10_afterTurn := ⟨in_tb (in_t7 (List.mem_of_getElem? (i := 43) rfl)) rfl, im_X10_afterTurn, se_X10_afterTurn⟩
set_option maxRecDepth 10000 in
theorem lk_X2_66 : LkV RX2 66 M_X4_indexOf := ⟨in_tb (in_t7 (List.mem_of_getElem? (i := 44) rfl)) rfl, im_X4_indexOf, se_X4_indexOf⟩
set_option maxRecDepth 10000 in
theorem fl_X3_9 : FLk RX3 9 3 3 := ⟨⟨in_tb (in_t2 (List.mem_of_getElem? (i := 176) rfl)) rfl, by decide⟩, by decide⟩
set_option maxRecDepth 10000 in
theorem fl_X3_15 : FLk RX3 15 9 5 := ⟨⟨in_tb (in_t1 (List.mem_of_getElem? (i := 167) rfl)) rfl, by decide⟩, by decide⟩
set_option maxRecDepth 10000 in
theorem lk_X3_21 : LkV RX3 21 M_X9_explaining := ⟨in_tb (in_t3 (List.mem_of_getElem? (i := 108) rfl)) rfl, im_X9_explaining, se_X9_explaining⟩
set_option maxRecDepth 10000 in
theorem fl_X3_25 : FLk RX3 25 9 0 := ⟨⟨in_tb (in_t1 (List.mem_of_getElem? (i := 156) rfl)) rfl, by decide⟩, by decide⟩
set_option maxRecDepth 10000 in
theorem fl_X3_29 : FLk RX3 29 6 0 := ⟨⟨in_tb (in_t1 (List.mem_of_getElem? (i := 87) rfl)) rfl, by decide⟩, by decide⟩
set_option maxRecDepth 10000 in
theorem lk_X3_34 : LkS RX3 34 M_J6_bitCount_0f7a4 := ⟨in_tb (in_t3 (List.mem_of_getElem? (i := 120) rfl)) rfl, sm_J6_bitCount_0f7a4⟩
set_option maxRecDepth 10000 in
theorem lk_X3_39 : LkV RX3 39 M_X3_explainsAll := ⟨in_tb (in_t3 (List.mem_of_getElem? (i := 121) rfl)) rfl, im_X3_explainsAll, se_X3_explainsAll⟩
set_option maxRecDepth 10000 in
theorem fl_X3_43 : FLk RX3 43 3 0 := ⟨⟨in_tb (in_t2 (List.mem_of_getElem? (i := 170) rfl)) rfl, by decide⟩, by decide⟩
set_option maxRecDepth 10000 in
theorem cn_X3_46 : Cond.constantLong RX3 46 (-1) ∈ tbw := in_tb (in_t7 (List.mem_of_getElem? (i := 6) rfl)) rfl
set_option maxRecDepth 10000 in
theorem fl_X3_48 : FLk RX3 48 3 1 := ⟨⟨in_tb (in_t2 (List.mem_of_getElem? (i := 172) rfl)) rfl, by decide⟩, by decide⟩
set_option maxRecDepth 10000 in
theorem fl_X3_52 : FLk RX3 52 3 2 := ⟨⟨in_tb (in_t2 (List.mem_of_getElem? (i := 174) rfl)) rfl, by decide⟩, by decide⟩
set_option maxRecDepth 10000 in
theorem fl_X3_55 : FLk RX3 55 9 4 := ⟨⟨in_tb (in_t1 (List.mem_of_getElem? (i := 165) rfl)) rfl, by decide⟩, by decide⟩
set_option maxRecDepth 10000 in
theorem lk_X3_59 : LkSN RX3 59 M_X11_sizeOf := ⟨⟨_, in_nw (in_t7 (List.mem_of_getElem? (i := 7) rfl)) rfl⟩, sm_X11_sizeOf⟩
set_option maxRecDepth 10000 in
theorem fl_X3_63 : FLk RX3 63 9 3 := ⟨⟨in_tb (in_t1 (List.mem_of_getElem? (i := 162) rfl)) rfl, by decide⟩, by decide⟩
set_option maxRecDepth 10000 in
theorem lk_X3_66 : LkV RX3 66 M_X3_surveySizes := ⟨in_tb (in_t7 (List.mem_of_getElem? (i := 8) rfl)) rfl, im_X3_surveySizes, se_X3_surveySizes⟩
set_option maxRecDepth 10000 in
theorem lk_X3_70 : LkSN RX3 70 M_X11_withPart := ⟨⟨_, in_nw (in_t7 (List.mem_of_getElem? (i := 12) rfl)) rfl⟩, sm_X11_withPart⟩
set_option maxRecDepth 10000 in
theorem lk_X3_74 : LkSN RX3 74 M_X11_replaced := ⟨⟨_, in_nw (in_t7 (List.mem_of_getElem? (i := 13) rfl)) rfl⟩, sm_X11_replaced⟩
set_option maxRecDepth 10000 in
theorem lk_X3_78 : LkS RX3 78 M_X3_cameEarlier := ⟨in_tb (in_t7 (List.mem_of_getElem? (i := 14) rfl)) rfl, sm_X3_cameEarlier⟩
set_option maxRecDepth 10000 in
theorem lk_X3_82 : LkS RX3 82 M_X3_tellsAll := ⟨in_tb (in_t7 (List.mem_of_getElem? (i := 18) rfl)) rfl, sm_X3_tellsAll⟩
set_option maxRecDepth 10000 in
theorem lk_X3_86 : LkSN RX3 86 M_X11_standsIn := ⟨⟨_, in_nw (in_t7 (List.mem_of_getElem? (i := 17) rfl)) rfl⟩, sm_X11_standsIn⟩
set_option maxRecDepth 10000 in
theorem lk_X3_90 : LkSN RX3 90 M_X11_canBecome := ⟨⟨_, in_nw (in_t7 (List.mem_of_getElem? (i := 21) rfl)) rfl⟩, sm_X11_canBecome⟩
set_option maxRecDepth 10000 in
theorem fl_X4_11 : FLk RX4 11 4 1 := ⟨⟨in_tb (in_t2 (List.mem_of_getElem? (i := 53) rfl)) rfl, by decide⟩, by decide⟩
set_option maxRecDepth 10000 in
theorem fl_X4_15 : FLk RX4 15 4 2 := ⟨⟨in_tb (in_t2 (List.mem_of_getElem? (i := 56) rfl)) rfl, by decide⟩, by decide⟩
set_option maxRecDepth 10000 in
theorem fl_X4_19 : FLk RX4 19 4 3 := ⟨⟨in_tb (in_t2 (List.mem_of_getElem? (i := 59) rfl)) rfl, by decide⟩, by decide⟩
set_option maxRecDepth 10000 in
theorem lk_X4_22 : LkS RX4 22 M_J7_fill_53178 := ⟨in_tb (in_t5 (List.mem_of_getElem? (i := 227) rfl)) rfl, sm_J7_fill_53178⟩
set_option maxRecDepth 10000 in
theorem fl_X4_28 : FLk RX4 28 4 0 := ⟨⟨in_tb (in_t2 (List.mem_of_getElem? (i := 50) rfl)) rfl, by decide⟩, by decide⟩
set_option maxRecDepth 10000 in
theorem fl_X4_32 : FLk RX4 32 4 4 := ⟨⟨in_tb (in_t2 (List.mem_of_getElem? (i := 60) rfl)) rfl, by decide⟩, by decide⟩
set_option maxRecDepth 10000 in
theorem fl_X4_35 : FLk RX4 35 4 5 := ⟨⟨in_tb (in_t2 (List.mem_of_getElem? (i := 61) rfl)) rfl, by decide⟩, by decide⟩
set_option maxRecDepth 10000 in
theorem lk_X4_38 : LkV RX4 38 M_X4_take := ⟨in_tb (in_t5 (List.mem_of_getElem? (i := 228) rfl)) rfl, im_X4_take, se_X4_take⟩
set_option maxRecDepth 10000 in
theorem lk_X4_42 : LkV RX4 42 M_X4_slotOf := ⟨in_tb (in_t5 (List.mem_of_getElem? (i := 232) rfl)) rfl, im_X4_slotOf, se_X4_slotOf⟩
set_option maxRecDepth 10000 in
theorem cn_X4_46 : Cond.constantLong RX4 46 (-7046029254386353131) ∈ tbw := in_tb (in_t5 (List.mem_of_getElem? (i := 236) rfl)) rfl
set_option maxRecDepth 10000 in
theorem lk_X4_48 : LkV RX4 48 M_X4_begin := ⟨in_tb (in_t6 (List.mem_of_getElem? (i := 24) rfl)) rfl, im_X4_begin, se_X4_begin⟩
set_option maxRecDepth 10000 in
theorem lk_X4_52 : LkV RX4 52 M_X4_goesOn := ⟨in_tb (in_t6 (List.mem_of_getElem? (i := 25) rfl)) rfl, im_X4_goesOn, se_X4_goesOn⟩
set_option maxRecDepth 10000 in
theorem lk_X4_56 : LkV RX4 56 M_X4_spreadOnce := ⟨in_tb (in_t6 (List.mem_of_getElem? (i := 29) rfl)) rfl, im_X4_spreadOnce, se_X4_spreadOnce⟩
set_option maxRecDepth 10000 in
theorem lk_X4_60 : LkV RX4 60 M_X10_listTurns := ⟨in_tb (in_t6 (List.mem_of_getElem? (i := 33) rfl)) rfl, im_X10_listTurns, se_X10_listTurns⟩
set_option maxRecDepth 10000 in
theorem fl_X4_65 : FLk RX4 65 10 7 := ⟨⟨in_tb (in_t2 (List.mem_of_getElem? (i := 7) rfl)) rfl, by decide⟩, by decide⟩
set_option maxRecDepth 10000 in
theorem lk_X4_68 : LkV RX4 68 M_X10_afterTurn := ⟨in_tb (in_t6 (List.mem_of_getElem? (i := 34) rfl)) rfl, im_X10_afterTurn, se_X10_afterTurn⟩
set_option maxRecDepth 10000 in
theorem lk_X4_72 : LkSN RX4 72 M_X11_sizeOf := ⟨⟨_, in_nw (in_t6 (List.mem_of_getElem? (i := 44) rfl)) rfl⟩, sm_X11_sizeOf⟩
set_option maxRecDepth 10000 in
theorem lk_X4_75 : LkS RX4 75 M_J9_max_7cf53 := ⟨in_tb (in_t6 (List.mem_of_getElem? (i := 45) rfl)) rfl, sm_J9_max_7cf53⟩
set_option maxRecDepth 10000 in
theorem lk_X4_81 : LkV RX4 81 M_X10_isSettled := ⟨in_tb (in_t6 (List.mem_of_getElem? (i := 52) rfl)) rfl, im_X10_isSettled, se_X10_isSettled⟩
set_option maxRecDepth 10000 in
theorem cn_X4_85 : Cond.constantLong RX4 85 (-1) ∈ tbw := in_tb (in_t6 (List.mem_of_getElem? (i := 60) rfl)) rfl
set_option maxRecDepth 10000 in
theorem fl_X5_11 : FLk RX5 11 5 0 := ⟨⟨in_tb (in_t1 (List.mem_of_getElem? (i := 214) rfl)) rfl, by decide⟩, by decide⟩
set_option maxRecDepth 10000 in
theorem fl_X5_15 : FLk RX5 15 5 2 := ⟨⟨in_tb (in_t1 (List.mem_of_getElem? (i := 217) rfl)) rfl, by decide⟩, by decide⟩
set_option maxRecDepth 10000 in
theorem fl_X5_19 : FLk RX5 19 5 3 := ⟨⟨in_tb (in_t1 (List.mem_of_getElem? (i := 218) rfl)) rfl, by decide⟩, by decide⟩
set_option maxRecDepth 10000 in
theorem fl_X5_22 : FLk RX5 22 5 1 := ⟨⟨in_tb (in_t1 (List.mem_of_getElem? (i := 216) rfl)) rfl, by decide⟩, by decide⟩
set_option maxRecDepth 10000 in
theorem lk_X5_31 : LkV RX5 31 M_X8_begin := ⟨in_tb (in_t4 (List.mem_of_getElem? (i := 199) rfl)) rfl, im_X8_begin, se_X8_begin⟩
set_option maxRecDepth 10000 in
theorem fl_X5_36 : FLk RX5 36 8 2 := ⟨⟨in_tb (in_t1 (List.mem_of_getElem? (i := 50) rfl)) rfl, by decide⟩, by decide⟩
set_option maxRecDepth 10000 in
theorem lk_X5_41 : LkV RX5 41 M_X8_skipWord := ⟨in_tb (in_t4 (List.mem_of_getElem? (i := 201) rfl)) rfl, im_X8_skipWord, se_X8_skipWord⟩
set_option maxRecDepth 10000 in
theorem lk_X5_47 : LkV RX5 47 M_X8_isWord := ⟨in_tb (in_t4 (List.mem_of_getElem? (i := 203) rfl)) rfl, im_X8_isWord, se_X8_isWord⟩
set_option maxRecDepth 10000 in
theorem lk_X5_50 : LkV RX5 50 M_X5_write := ⟨in_tb (in_t4 (List.mem_of_getElem? (i := 204) rfl)) rfl, im_X5_write, se_X5_write⟩
set_option maxRecDepth 10000 in
theorem lk_X5_54 : LkV RX5 54 M_X8_advance := ⟨in_tb (in_t4 (List.mem_of_getElem? (i := 208) rfl)) rfl, im_X8_advance, se_X8_advance⟩
set_option maxRecDepth 10000 in
theorem lk_X5_57 : LkV RX5 57 M_X5_readAny := ⟨in_tb (in_t4 (List.mem_of_getElem? (i := 209) rfl)) rfl, im_X5_readAny, se_X5_readAny⟩
set_option maxRecDepth 10000 in
theorem lk_X5_61 : LkV RX5 61 M_X8_skip := ⟨in_tb (in_t4 (List.mem_of_getElem? (i := 223) rfl)) rfl, im_X8_skip, se_X8_skip⟩
set_option maxRecDepth 10000 in
theorem lk_X5_65 : LkV RX5 65 M_X8_isWrong := ⟨in_tb (in_t4 (List.mem_of_getElem? (i := 222) rfl)) rfl, im_X8_isWrong, se_X8_isWrong⟩
set_option maxRecDepth 10000 in
theorem lk_X5_69 : LkV RX5 69 M_X5_readEach := ⟨in_tb (in_t4 (List.mem_of_getElem? (i := 213) rfl)) rfl, im_X5_readEach, se_X5_readEach⟩
set_option maxRecDepth 10000 in
theorem lk_X5_74 : LkV RX5 74 M_X5_readAtom := ⟨in_tb (in_t4 (List.mem_of_getElem? (i := 217) rfl)) rfl, im_X5_readAtom, se_X5_readAtom⟩
set_option maxRecDepth 10000 in
theorem lk_X5_83 : LkV RX5 83 M_X5_readSum := ⟨in_tb (in_t4 (List.mem_of_getElem? (i := 225) rfl)) rfl, im_X5_readSum, se_X5_readSum⟩
set_option maxRecDepth 10000 in
theorem lk_X5_87 : LkV RX5 87 M_X5_readPart := ⟨in_tb (in_t4 (List.mem_of_getElem? (i := 229) rfl)) rfl, im_X5_readPart, se_X5_readPart⟩
set_option maxRecDepth 10000 in
theorem fl_X5_90 : FLk RX5 90 8 5 := ⟨⟨in_tb (in_t1 (List.mem_of_getElem? (i := 55) rfl)) rfl, by decide⟩, by decide⟩
set_option maxRecDepth 10000 in
theorem lk_X5_103 : LkS RX5 103 M_X5_valueOf := ⟨in_tb (in_t3 (List.mem_of_getElem? (i := 68) rfl)) rfl, sm_X5_valueOf⟩
set_option maxRecDepth 10000 in
theorem lk_X5_107 : LkS RX5 107 M_X5_joined := ⟨in_tb (in_t3 (List.mem_of_getElem? (i := 71) rfl)) rfl, sm_X5_joined⟩
set_option maxRecDepth 10000 in
theorem fl_X6_9 : FLk RX6 9 6 1 := ⟨⟨in_tb (in_t1 (List.mem_of_getElem? (i := 93) rfl)) rfl, by decide⟩, by decide⟩
set_option maxRecDepth 10000 in
theorem fl_X6_15 : FLk RX6 15 6 2 := ⟨⟨in_tb (in_t1 (List.mem_of_getElem? (i := 99) rfl)) rfl, by decide⟩, by decide⟩
set_option maxRecDepth 10000 in
theorem fl_X6_18 : FLk RX6 18 6 3 := ⟨⟨in_tb (in_t1 (List.mem_of_getElem? (i := 104) rfl)) rfl, by decide⟩, by decide⟩
set_option maxRecDepth 10000 in
theorem fl_X6_22 : FLk RX6 22 6 4 := ⟨⟨in_tb (in_t1 (List.mem_of_getElem? (i := 107) rfl)) rfl, by decide⟩, by decide⟩
set_option maxRecDepth 10000 in
theorem fl_X6_25 : FLk RX6 25 6 0 := ⟨⟨in_tb (in_t1 (List.mem_of_getElem? (i := 86) rfl)) rfl, by decide⟩, by decide⟩
set_option maxRecDepth 10000 in
theorem lk_X6_35 : LkSN RX6 35 M_X11_sizeOf := ⟨⟨_, in_nw (in_t4 (List.mem_of_getElem? (i := 54) rfl)) rfl⟩, sm_X11_sizeOf⟩
set_option maxRecDepth 10000 in
theorem lk_X6_39 : LkSN RX6 39 M_X11_kindsIn := ⟨⟨_, in_nw (in_t3 (List.mem_of_getElem? (i := 34) rfl)) rfl⟩, sm_X11_kindsIn⟩
set_option maxRecDepth 10000 in
theorem lk_X6_42 : LkV RX6 42 M_X6_kindsOfLefts := ⟨in_tb (in_t6 (List.mem_of_getElem? (i := 132) rfl)) rfl, im_X6_kindsOfLefts, se_X6_kindsOfLefts⟩
set_option maxRecDepth 10000 in
theorem lk_X6_46 : LkV RX6 46 M_X6_kindsOfRights := ⟨in_tb (in_t6 (List.mem_of_getElem? (i := 133) rfl)) rfl, im_X6_kindsOfRights, se_X6_kindsOfRights⟩
set_option maxRecDepth 10000 in
theorem fl_X7_9 : FLk RX7 9 7 0 := ⟨⟨in_tb (in_t2 (List.mem_of_getElem? (i := 102) rfl)) rfl, by decide⟩, by decide⟩
set_option maxRecDepth 10000 in
theorem fl_X7_15 : FLk RX7 15 7 1 := ⟨⟨in_tb (in_t2 (List.mem_of_getElem? (i := 104) rfl)) rfl, by decide⟩, by decide⟩
set_option maxRecDepth 10000 in
theorem fl_X7_18 : FLk RX7 18 7 3 := ⟨⟨in_tb (in_t2 (List.mem_of_getElem? (i := 106) rfl)) rfl, by decide⟩, by decide⟩
set_option maxRecDepth 10000 in
theorem fl_X7_21 : FLk RX7 21 7 4 := ⟨⟨in_tb (in_t2 (List.mem_of_getElem? (i := 107) rfl)) rfl, by decide⟩, by decide⟩
set_option maxRecDepth 10000 in
theorem fl_X7_24 : FLk RX7 24 7 2 := ⟨⟨in_tb (in_t2 (List.mem_of_getElem? (i := 105) rfl)) rfl, by decide⟩, by decide⟩
set_option maxRecDepth 10000 in
theorem lk_X7_28 : LkS RX7 28 M_J6_bitCount_0f7a4 := ⟨in_tb (in_t6 (List.mem_of_getElem? (i := 141) rfl)) rfl, sm_J6_bitCount_0f7a4⟩
set_option maxRecDepth 10000 in
theorem fl_X7_34 : FLk RX7 34 7 5 := ⟨⟨in_tb (in_t2 (List.mem_of_getElem? (i := 108) rfl)) rfl, by decide⟩, by decide⟩
set_option maxRecDepth 10000 in
theorem lk_X7_37 : LkS RX7 37 M_J7_fill_53178 := ⟨in_tb (in_t6 (List.mem_of_getElem? (i := 146) rfl)) rfl, sm_J7_fill_53178⟩
set_option maxRecDepth 10000 in
theorem fl_X7_43 : FLk RX7 43 6 0 := ⟨⟨in_tb (in_t1 (List.mem_of_getElem? (i := 89) rfl)) rfl, by decide⟩, by decide⟩
set_option maxRecDepth 10000 in
theorem fl_X7_48 : FLk RX7 48 6 1 := ⟨⟨in_tb (in_t1 (List.mem_of_getElem? (i := 95) rfl)) rfl, by decide⟩, by decide⟩
set_option maxRecDepth 10000 in
theorem fl_X7_52 : FLk RX7 52 6 2 := ⟨⟨in_tb (in_t1 (List.mem_of_getElem? (i := 100) rfl)) rfl, by decide⟩, by decide⟩
set_option maxRecDepth 10000 in
theorem lk_X7_55 : LkV RX7 55 M_X7_loadPair := ⟨in_tb (in_t6 (List.mem_of_getElem? (i := 147) rfl)) rfl, im_X7_loadPair, se_X7_loadPair⟩
set_option maxRecDepth 10000 in
theorem fl_X7_59 : FLk RX7 59 7 6 := ⟨⟨in_tb (in_t2 (List.mem_of_getElem? (i := 109) rfl)) rfl, by decide⟩, by decide⟩
set_option maxRecDepth 10000 in
theorem lk_X7_62 : LkV RX7 62 M_X7_countBeasts := ⟨in_tb (in_t6 (List.mem_of_getElem? (i := 151) rfl)) rfl, im_X7_countBeasts, se_X7_countBeasts⟩
set_option maxRecDepth 10000 in
theorem lk_X7_66 : LkSN RX7 66 M_X11_sizeOf := ⟨⟨_, in_nw (in_t6 (List.mem_of_getElem? (i := 155) rfl)) rfl⟩, sm_X11_sizeOf⟩
set_option maxRecDepth 10000 in
theorem lk_X7_70 : LkSN RX7 70 M_X11_beastAt := ⟨⟨_, in_nw (in_t6 (List.mem_of_getElem? (i := 156) rfl)) rfl⟩, sm_X11_beastAt⟩
set_option maxRecDepth 10000 in
theorem fl_X7_74 : FLk RX7 74 7 9 := ⟨⟨in_tb (in_t2 (List.mem_of_getElem? (i := 112) rfl)) rfl, by decide⟩, by decide⟩
set_option maxRecDepth 10000 in
theorem fl_X7_77 : FLk RX7 77 7 7 := ⟨⟨in_tb (in_t2 (List.mem_of_getElem? (i := 110) rfl)) rfl, by decide⟩, by decide⟩
set_option maxRecDepth 10000 in
theorem fl_X7_80 : FLk RX7 80 7 8 := ⟨⟨in_tb (in_t2 (List.mem_of_getElem? (i := 111) rfl)) rfl, by decide⟩, by decide⟩
set_option maxRecDepth 10000 in
theorem lk_X7_83 : LkV RX7 83 M_X7_find := ⟨in_tb (in_t6 (List.mem_of_getElem? (i := 162) rfl)) rfl, im_X7_find, se_X7_find⟩
set_option maxRecDepth 10000 in
theorem lk_X7_87 : LkV RX7 87 M_X7_holdsBehind := ⟨in_tb (in_t6 (List.mem_of_getElem? (i := 166) rfl)) rfl, im_X7_holdsBehind, se_X7_holdsBehind⟩
set_option maxRecDepth 10000 in
theorem lk_X7_90 : LkV RX7 90 M_X7_holds := ⟨in_tb (in_t6 (List.mem_of_getElem? (i := 170) rfl)) rfl, im_X7_holds, se_X7_holds⟩
set_option maxRecDepth 10000 in
theorem fl_X8_9 : FLk RX8 9 8 0 := ⟨⟨in_tb (in_t1 (List.mem_of_getElem? (i := 46) rfl)) rfl, by decide⟩, by decide⟩
set_option maxRecDepth 10000 in
theorem fl_X8_15 : FLk RX8 15 8 2 := ⟨⟨in_tb (in_t1 (List.mem_of_getElem? (i := 49) rfl)) rfl, by decide⟩, by decide⟩
set_option maxRecDepth 10000 in
theorem fl_X8_19 : FLk RX8 19 8 6 := ⟨⟨in_tb (in_t1 (List.mem_of_getElem? (i := 56) rfl)) rfl, by decide⟩, by decide⟩
set_option maxRecDepth 10000 in
theorem fl_X8_22 : FLk RX8 22 8 1 := ⟨⟨in_tb (in_t1 (List.mem_of_getElem? (i := 48) rfl)) rfl, by decide⟩, by decide⟩
set_option maxRecDepth 10000 in
theorem fl_X8_25 : FLk RX8 25 8 4 := ⟨⟨in_tb (in_t1 (List.mem_of_getElem? (i := 53) rfl)) rfl, by decide⟩, by decide⟩
set_option maxRecDepth 10000 in
theorem lk_X8_28 : LkV RX8 28 M_X8_advance := ⟨in_tb (in_t3 (List.mem_of_getElem? (i := 201) rfl)) rfl, im_X8_advance, se_X8_advance⟩
set_option maxRecDepth 10000 in
theorem fl_X8_31 : FLk RX8 31 8 3 := ⟨⟨in_tb (in_t1 (List.mem_of_getElem? (i := 52) rfl)) rfl, by decide⟩, by decide⟩
set_option maxRecDepth 10000 in
theorem fl_X8_34 : FLk RX8 34 8 5 := ⟨⟨in_tb (in_t1 (List.mem_of_getElem? (i := 54) rfl)) rfl, by decide⟩, by decide⟩
set_option maxRecDepth 10000 in
theorem lk_X8_37 : LkV RX8 37 M_J0_length_8abf5 := ⟨in_tb (in_t3 (List.mem_of_getElem? (i := 214) rfl)) rfl, im_J0_length_8abf5, se_J0_length_8abf5⟩
set_option maxRecDepth 10000 in
theorem lk_X8_43 : LkV RX8 43 M_J0_charAt_5068e := ⟨in_tb (in_t3 (List.mem_of_getElem? (i := 224) rfl)) rfl, im_J0_charAt_5068e, se_J0_charAt_5068e⟩
set_option maxRecDepth 10000 in
theorem lk_X8_47 : LkV RX8 47 M_X8_isWord := ⟨in_tb (in_t4 (List.mem_of_getElem? (i := 49) rfl)) rfl, im_X8_isWord, se_X8_isWord⟩
set_option maxRecDepth 10000 in
theorem lk_X8_51 : LkV RX8 51 M_X8_isWrong := ⟨in_tb (in_t4 (List.mem_of_getElem? (i := 39) rfl)) rfl, im_X8_isWrong, se_X8_isWrong⟩
set_option maxRecDepth 10000 in
theorem lk_X8_55 : LkV RX8 55 M_X8_beastsAhead := ⟨in_tb (in_t4 (List.mem_of_getElem? (i := 31) rfl)) rfl, im_X8_beastsAhead, se_X8_beastsAhead⟩
set_option maxRecDepth 10000 in
theorem cn_X8_59 : Cond.constantLong RX8 59 (-1) ∈ tbw := in_tb (in_t4 (List.mem_of_getElem? (i := 35) rfl)) rfl
set_option maxRecDepth 10000 in
theorem lk_X8_61 : LkSN RX8 61 M_X11_withBeasts := ⟨⟨_, in_nw (in_t4 (List.mem_of_getElem? (i := 36) rfl)) rfl⟩, sm_X11_withBeasts⟩
set_option maxRecDepth 10000 in
theorem lk_X9_11 : LkIN RX9 11 M_X6_init := ⟨⟨_, in_nw (in_t1 (List.mem_of_getElem? (i := 82) rfl)) rfl⟩, im_X6_init, rfl⟩
set_option maxRecDepth 10000 in
theorem fl_X9_12 : FLk RX9 12 9 0 := ⟨⟨in_tb (in_t1 (List.mem_of_getElem? (i := 154) rfl)) rfl, by decide⟩, by decide⟩
set_option maxRecDepth 10000 in
theorem fl_X9_20 : FLk RX9 20 9 1 := ⟨⟨in_tb (in_t1 (List.mem_of_getElem? (i := 157) rfl)) rfl, by decide⟩, by decide⟩
set_option maxRecDepth 10000 in
theorem fl_X9_24 : FLk RX9 24 9 3 := ⟨⟨in_tb (in_t1 (List.mem_of_getElem? (i := 161) rfl)) rfl, by decide⟩, by decide⟩
set_option maxRecDepth 10000 in
theorem fl_X9_28 : FLk RX9 28 9 4 := ⟨⟨in_tb (in_t1 (List.mem_of_getElem? (i := 164) rfl)) rfl, by decide⟩, by decide⟩
set_option maxRecDepth 10000 in
theorem fl_X9_31 : FLk RX9 31 9 6 := ⟨⟨in_tb (in_t1 (List.mem_of_getElem? (i := 170) rfl)) rfl, by decide⟩, by decide⟩
set_option maxRecDepth 10000 in
theorem fl_X9_35 : FLk RX9 35 9 8 := ⟨⟨in_tb (in_t1 (List.mem_of_getElem? (i := 173) rfl)) rfl, by decide⟩, by decide⟩
set_option maxRecDepth 10000 in
theorem fl_X9_39 : FLk RX9 39 9 11 := ⟨⟨in_tb (in_t1 (List.mem_of_getElem? (i := 181) rfl)) rfl, by decide⟩, by decide⟩
set_option maxRecDepth 10000 in
theorem lk_X9_42 : LkIN RX9 42 M_X1_init := ⟨⟨_, in_nw (in_t1 (List.mem_of_getElem? (i := 124) rfl)) rfl⟩, im_X1_init, rfl⟩
set_option maxRecDepth 10000 in
theorem lk_X9_43 : LkS RX9 43 M_J7_fill_53178 := ⟨in_tb (in_t1 (List.mem_of_getElem? (i := 151) rfl)) rfl, sm_J7_fill_53178⟩
set_option maxRecDepth 10000 in
theorem lk_X9_49 : LkV RX9 49 M_X6_copyFrom := ⟨in_tb (in_t3 (List.mem_of_getElem? (i := 137) rfl)) rfl, im_X6_copyFrom, se_X6_copyFrom⟩
set_option maxRecDepth 10000 in
theorem fl_X9_53 : FLk RX9 53 9 2 := ⟨⟨in_tb (in_t1 (List.mem_of_getElem? (i := 159) rfl)) rfl, by decide⟩, by decide⟩
set_option maxRecDepth 10000 in
theorem lk_X9_56 : LkV RX9 56 M_X1_copyFrom := ⟨in_tb (in_t3 (List.mem_of_getElem? (i := 144) rfl)) rfl, im_X1_copyFrom, se_X1_copyFrom⟩
set_option maxRecDepth 10000 in
theorem fl_X9_65 : FLk RX9 65 9 5 := ⟨⟨in_tb (in_t1 (List.mem_of_getElem? (i := 168) rfl)) rfl, by decide⟩, by decide⟩
set_option maxRecDepth 10000 in
theorem fl_X9_68 : FLk RX9 68 9 7 := ⟨⟨in_tb (in_t1 (List.mem_of_getElem? (i := 171) rfl)) rfl, by decide⟩, by decide⟩
set_option maxRecDepth 10000 in
theorem fl_X9_71 : FLk RX9 71 9 9 := ⟨⟨in_tb (in_t1 (List.mem_of_getElem? (i := 176) rfl)) rfl, by decide⟩, by decide⟩
set_option maxRecDepth 10000 in
theorem fl_X9_74 : FLk RX9 74 9 10 := ⟨⟨in_tb (in_t1 (List.mem_of_getElem? (i := 179) rfl)) rfl, by decide⟩, by decide⟩
set_option maxRecDepth 10000 in
theorem cn_X9_77 : Cond.constant RX9 77 (1103515245) ∈ tbw := in_tb (in_t5 (List.mem_of_getElem? (i := 204) rfl)) rfl
set_option maxRecDepth 10000 in
theorem lk_X9_78 : LkSN RX9 78 M_X11_sizeOf := ⟨⟨_, in_nw (in_t3 (List.mem_of_getElem? (i := 183) rfl)) rfl⟩, sm_X11_sizeOf⟩
set_option maxRecDepth 10000 in
theorem lk_X9_82 : LkSN RX9 82 M_X11_beastAt := ⟨⟨_, in_nw (in_t4 (List.mem_of_getElem? (i := 93) rfl)) rfl⟩, sm_X11_beastAt⟩
set_option maxRecDepth 10000 in
theorem fl_X9_86 : FLk RX9 86 6 0 := ⟨⟨in_tb (in_t1 (List.mem_of_getElem? (i := 90) rfl)) rfl, by decide⟩, by decide⟩
set_option maxRecDepth 10000 in
theorem fl_X9_89 : FLk RX9 89 6 1 := ⟨⟨in_tb (in_t1 (List.mem_of_getElem? (i := 97) rfl)) rfl, by decide⟩, by decide⟩
set_option maxRecDepth 10000 in
theorem fl_X9_92 : FLk RX9 92 6 2 := ⟨⟨in_tb (in_t1 (List.mem_of_getElem? (i := 101) rfl)) rfl, by decide⟩, by decide⟩
set_option maxRecDepth 10000 in
theorem lk_X9_95 : LkSN RX9 95 M_X11_canBecome := ⟨⟨_, in_nw (in_t3 (List.mem_of_getElem? (i := 112) rfl)) rfl⟩, sm_X11_canBecome⟩
set_option maxRecDepth 10000 in
theorem fl_X9_99 : FLk RX9 99 1 1 := ⟨⟨in_tb (in_t1 (List.mem_of_getElem? (i := 133) rfl)) rfl, by decide⟩, by decide⟩
set_option maxRecDepth 10000 in
theorem fl_X9_102 : FLk RX9 102 1 0 := ⟨⟨in_tb (in_t1 (List.mem_of_getElem? (i := 129) rfl)) rfl, by decide⟩, by decide⟩
set_option maxRecDepth 10000 in
theorem lk_X9_106 : LkV RX9 106 M_X8_begin := ⟨in_tb (in_t3 (List.mem_of_getElem? (i := 197) rfl)) rfl, im_X8_begin, se_X8_begin⟩
set_option maxRecDepth 10000 in
theorem fl_X9_111 : FLk RX9 111 8 2 := ⟨⟨in_tb (in_t1 (List.mem_of_getElem? (i := 51) rfl)) rfl, by decide⟩, by decide⟩
set_option maxRecDepth 10000 in
theorem lk_X9_114 : LkV RX9 114 M_X9_readLine := ⟨in_tb (in_t3 (List.mem_of_getElem? (i := 205) rfl)) rfl, im_X9_readLine, se_X9_readLine⟩
set_option maxRecDepth 10000 in
theorem lk_X9_118 : LkV RX9 118 M_X8_skip := ⟨in_tb (in_t4 (List.mem_of_getElem? (i := 103) rfl)) rfl, im_X8_skip, se_X8_skip⟩
set_option maxRecDepth 10000 in
theorem lk_X9_122 : LkV RX9 122 M_X8_isWrong := ⟨in_tb (in_t4 (List.mem_of_getElem? (i := 55) rfl)) rfl, im_X8_isWrong, se_X8_isWrong⟩
set_option maxRecDepth 10000 in
theorem lk_X9_128 : LkV RX9 128 M_X8_isWord := ⟨in_tb (in_t3 (List.mem_of_getElem? (i := 210) rfl)) rfl, im_X8_isWord, se_X8_isWord⟩
set_option maxRecDepth 10000 in
theorem lk_X9_132 : LkV RX9 132 M_X9_readRule := ⟨in_tb (in_t4 (List.mem_of_getElem? (i := 22) rfl)) rfl, im_X9_readRule, se_X9_readRule⟩
set_option maxRecDepth 10000 in
theorem lk_X9_137 : LkV RX9 137 M_X9_readField := ⟨in_tb (in_t4 (List.mem_of_getElem? (i := 57) rfl)) rfl, im_X9_readField, se_X9_readField⟩
set_option maxRecDepth 10000 in
theorem lk_X9_142 : LkV RX9 142 M_X9_readSeen := ⟨in_tb (in_t4 (List.mem_of_getElem? (i := 67) rfl)) rfl, im_X9_readSeen, se_X9_readSeen⟩
set_option maxRecDepth 10000 in
theorem lk_X9_147 : LkV RX9 147 M_X9_readFirst := ⟨in_tb (in_t4 (List.mem_of_getElem? (i := 72) rfl)) rfl, im_X9_readFirst, se_X9_readFirst⟩
set_option maxRecDepth 10000 in
theorem lk_X9_151 : LkV RX9 151 M_X9_readFog := ⟨in_tb (in_t4 (List.mem_of_getElem? (i := 80) rfl)) rfl, im_X9_readFog, se_X9_readFog⟩
set_option maxRecDepth 10000 in
theorem lk_X9_156 : LkV RX9 156 M_X9_readWeight := ⟨in_tb (in_t4 (List.mem_of_getElem? (i := 89) rfl)) rfl, im_X9_readWeight, se_X9_readWeight⟩
set_option maxRecDepth 10000 in
theorem lk_X9_161 : LkV RX9 161 M_X9_readDrop := ⟨in_tb (in_t4 (List.mem_of_getElem? (i := 95) rfl)) rfl, im_X9_readDrop, se_X9_readDrop⟩
set_option maxRecDepth 10000 in
theorem lk_X9_164 : LkV RX9 164 M_X8_advance := ⟨in_tb (in_t4 (List.mem_of_getElem? (i := 26) rfl)) rfl, im_X8_advance, se_X8_advance⟩
set_option maxRecDepth 10000 in
theorem lk_X9_167 : LkV RX9 167 M_X8_readBeasts := ⟨in_tb (in_t4 (List.mem_of_getElem? (i := 27) rfl)) rfl, im_X8_readBeasts, se_X8_readBeasts⟩
set_option maxRecDepth 10000 in
theorem cn_X9_171 : Cond.constantLong RX9 171 (-1) ∈ tbw := in_tb (in_t4 (List.mem_of_getElem? (i := 43) rfl)) rfl
set_option maxRecDepth 10000 in
theorem lk_X9_175 : LkV RX9 175 M_X8_skipWord := ⟨in_tb (in_t4 (List.mem_of_getElem? (i := 45) rfl)) rfl, im_X8_skipWord, se_X8_skipWord⟩
set_option maxRecDepth 10000 in
theorem lk_X9_178 : LkV RX9 178 M_X6_append := ⟨in_tb (in_t4 (List.mem_of_getElem? (i := 50) rfl)) rfl, im_X6_append, se_X6_append⟩
set_option maxRecDepth 10000 in
theorem lk_X9_182 : LkV RX9 182 M_X1_tell := ⟨in_tb (in_t4 (List.mem_of_getElem? (i := 61) rfl)) rfl, im_X1_tell, se_X1_tell⟩
set_option maxRecDepth 10000 in
theorem lk_X9_190 : LkV RX9 190 M_X8_readNumber := ⟨in_tb (in_t4 (List.mem_of_getElem? (i := 84) rfl)) rfl, im_X8_readNumber, se_X8_readNumber⟩
set_option maxRecDepth 10000 in
theorem lk_X9_194 : LkV RX9 194 M_X6_remove := ⟨in_tb (in_t4 (List.mem_of_getElem? (i := 99) rfl)) rfl, im_X6_remove, se_X6_remove⟩
set_option maxRecDepth 10000 in
theorem fl_X10_9 : FLk RX10 9 10 7 := ⟨⟨in_tb (in_t2 (List.mem_of_getElem? (i := 5) rfl)) rfl, by decide⟩, by decide⟩
set_option maxRecDepth 10000 in
theorem fl_X10_15 : FLk RX10 15 10 8 := ⟨⟨in_tb (in_t2 (List.mem_of_getElem? (i := 9) rfl)) rfl, by decide⟩, by decide⟩
set_option maxRecDepth 10000 in
theorem fl_X10_18 : FLk RX10 18 10 9 := ⟨⟨in_tb (in_t2 (List.mem_of_getElem? (i := 10) rfl)) rfl, by decide⟩, by decide⟩
set_option maxRecDepth 10000 in
theorem fl_X10_21 : FLk RX10 21 10 10 := ⟨⟨in_tb (in_t2 (List.mem_of_getElem? (i := 11) rfl)) rfl, by decide⟩, by decide⟩
set_option maxRecDepth 10000 in
theorem fl_X10_24 : FLk RX10 24 10 11 := ⟨⟨in_tb (in_t2 (List.mem_of_getElem? (i := 12) rfl)) rfl, by decide⟩, by decide⟩
set_option maxRecDepth 10000 in
theorem fl_X10_27 : FLk RX10 27 10 12 := ⟨⟨in_tb (in_t2 (List.mem_of_getElem? (i := 13) rfl)) rfl, by decide⟩, by decide⟩
set_option maxRecDepth 10000 in
theorem fl_X10_30 : FLk RX10 30 10 13 := ⟨⟨in_tb (in_t2 (List.mem_of_getElem? (i := 14) rfl)) rfl, by decide⟩, by decide⟩
set_option maxRecDepth 10000 in
theorem fl_X10_33 : FLk RX10 33 10 0 := ⟨⟨in_tb (in_t1 (List.mem_of_getElem? (i := 235) rfl)) rfl, by decide⟩, by decide⟩
set_option maxRecDepth 10000 in
theorem fl_X10_37 : FLk RX10 37 10 1 := ⟨⟨in_tb (in_t1 (List.mem_of_getElem? (i := 237) rfl)) rfl, by decide⟩, by decide⟩
set_option maxRecDepth 10000 in
theorem fl_X10_41 : FLk RX10 41 9 8 := ⟨⟨in_tb (in_t1 (List.mem_of_getElem? (i := 174) rfl)) rfl, by decide⟩, by decide⟩
set_option maxRecDepth 10000 in
theorem fl_X10_47 : FLk RX10 47 10 2 := ⟨⟨in_tb (in_t1 (List.mem_of_getElem? (i := 238) rfl)) rfl, by decide⟩, by decide⟩
set_option maxRecDepth 10000 in
theorem fl_X10_48 : FLk RX10 48 9 10 := ⟨⟨in_tb (in_t1 (List.mem_of_getElem? (i := 178) rfl)) rfl, by decide⟩, by decide⟩
set_option maxRecDepth 10000 in
theorem fl_X10_51 : FLk RX10 51 10 3 := ⟨⟨in_tb (in_t1 (List.mem_of_getElem? (i := 239) rfl)) rfl, by decide⟩, by decide⟩
set_option maxRecDepth 10000 in
theorem fl_X10_52 : FLk RX10 52 10 5 := ⟨⟨in_tb (in_t2 (List.mem_of_getElem? (i := 1) rfl)) rfl, by decide⟩, by decide⟩
set_option maxRecDepth 10000 in
theorem lk_X10_55 : LkV RX10 55 M_X5_isEmpty := ⟨in_tb (in_t3 (List.mem_of_getElem? (i := 25) rfl)) rfl, im_X5_isEmpty, se_X5_isEmpty⟩
set_option maxRecDepth 10000 in
theorem fl_X10_61 : FLk RX10 61 10 4 := ⟨⟨in_tb (in_t2 (List.mem_of_getElem? (i := 0) rfl)) rfl, by decide⟩, by decide⟩
set_option maxRecDepth 10000 in
theorem lk_X10_65 : LkS RX10 65 M_J7_fill_53178 := ⟨in_tb (in_t3 (List.mem_of_getElem? (i := 29) rfl)) rfl, sm_J7_fill_53178⟩
set_option maxRecDepth 10000 in
theorem fl_X10_71 : FLk RX10 71 6 3 := ⟨⟨in_tb (in_t1 (List.mem_of_getElem? (i := 106) rfl)) rfl, by decide⟩, by decide⟩
set_option maxRecDepth 10000 in
theorem fl_X10_76 : FLk RX10 76 6 1 := ⟨⟨in_tb (in_t1 (List.mem_of_getElem? (i := 96) rfl)) rfl, by decide⟩, by decide⟩
set_option maxRecDepth 10000 in
theorem lk_X10_80 : LkSN RX10 80 M_X11_standsIn := ⟨⟨_, in_nw (in_t3 (List.mem_of_getElem? (i := 61) rfl)) rfl⟩, sm_X11_standsIn⟩
set_option maxRecDepth 10000 in
theorem fl_X10_84 : FLk RX10 84 6 4 := ⟨⟨in_tb (in_t1 (List.mem_of_getElem? (i := 108) rfl)) rfl, by decide⟩, by decide⟩
set_option maxRecDepth 10000 in
theorem lk_X10_87 : LkV RX10 87 M_X5_bars := ⟨in_tb (in_t3 (List.mem_of_getElem? (i := 64) rfl)) rfl, im_X5_bars, se_X5_bars⟩
set_option maxRecDepth 10000 in
theorem lk_X10_91 : LkSN RX10 91 M_X11_sizeOf := ⟨⟨_, in_nw (in_t3 (List.mem_of_getElem? (i := 52) rfl)) rfl⟩, sm_X11_sizeOf⟩
set_option maxRecDepth 10000 in
theorem lk_X10_95 : LkV RX10 95 M_X10_gather := ⟨in_tb (in_t3 (List.mem_of_getElem? (i := 53) rfl)) rfl, im_X10_gather, se_X10_gather⟩
set_option maxRecDepth 10000 in
theorem cn_X10_99 : Cond.constantLong RX10 99 (-1) ∈ tbw := in_tb (in_t3 (List.mem_of_getElem? (i := 81) rfl)) rfl
set_option maxRecDepth 10000 in
theorem lk_X10_101 : LkV RX10 101 M_X10_after := ⟨in_tb (in_t3 (List.mem_of_getElem? (i := 74) rfl)) rfl, im_X10_after, se_X10_after⟩
set_option maxRecDepth 10000 in
theorem fl_X10_105 : FLk RX10 105 10 6 := ⟨⟨in_tb (in_t2 (List.mem_of_getElem? (i := 3) rfl)) rfl, by decide⟩, by decide⟩
set_option maxRecDepth 10000 in
theorem fl_X10_108 : FLk RX10 108 1 0 := ⟨⟨in_tb (in_t1 (List.mem_of_getElem? (i := 130) rfl)) rfl, by decide⟩, by decide⟩
set_option maxRecDepth 10000 in
theorem lk_X10_114 : LkV RX10 114 M_X10_change := ⟨in_tb (in_t5 (List.mem_of_getElem? (i := 134) rfl)) rfl, im_X10_change, se_X10_change⟩
set_option maxRecDepth 10000 in
theorem fl_X10_118 : FLk RX10 118 6 0 := ⟨⟨in_tb (in_t1 (List.mem_of_getElem? (i := 91) rfl)) rfl, by decide⟩, by decide⟩
set_option maxRecDepth 10000 in
theorem lk_X10_121 : LkV RX10 121 M_X10_mayUse := ⟨in_tb (in_t3 (List.mem_of_getElem? (i := 57) rfl)) rfl, im_X10_mayUse, se_X10_mayUse⟩
set_option maxRecDepth 10000 in
theorem lk_X10_125 : LkSN RX10 125 M_X11_withPart := ⟨⟨_, in_nw (in_t3 (List.mem_of_getElem? (i := 78) rfl)) rfl⟩, sm_X11_withPart⟩
set_option maxRecDepth 10000 in
theorem fl_X10_129 : FLk RX10 129 6 2 := ⟨⟨in_tb (in_t1 (List.mem_of_getElem? (i := 103) rfl)) rfl, by decide⟩, by decide⟩
set_option maxRecDepth 10000 in
theorem fl_X10_132 : FLk RX10 132 1 1 := ⟨⟨in_tb (in_t1 (List.mem_of_getElem? (i := 135) rfl)) rfl, by decide⟩, by decide⟩
set_option maxRecDepth 10000 in
theorem lk_X10_133 : LkV RX10 133 M_X10_keepMakers := ⟨in_tb (in_t5 (List.mem_of_getElem? (i := 138) rfl)) rfl, im_X10_keepMakers, se_X10_keepMakers⟩
set_option maxRecDepth 10000 in
theorem lk_X10_137 : LkV RX10 137 M_X10_noteMaker := ⟨in_tb (in_t5 (List.mem_of_getElem? (i := 142) rfl)) rfl, im_X10_noteMaker, se_X10_noteMaker⟩
set_option maxRecDepth 10000 in
theorem lk_X10_141 : LkV RX10 141 M_X1_takeMakers := ⟨in_tb (in_t5 (List.mem_of_getElem? (i := 146) rfl)) rfl, im_X1_takeMakers, se_X1_takeMakers⟩
set_option maxRecDepth 10000 in
theorem fl_X10_145 : FLk RX10 145 1 2 := ⟨⟨in_tb (in_t1 (List.mem_of_getElem? (i := 138) rfl)) rfl, by decide⟩, by decide⟩
set_option maxRecDepth 10000 in
theorem fl_X10_148 : FLk RX10 148 1 3 := ⟨⟨in_tb (in_t1 (List.mem_of_getElem? (i := 141) rfl)) rfl, by decide⟩, by decide⟩
set_option maxRecDepth 10000 in
theorem lk_X10_151 : LkSN RX10 151 M_X11_replaced := ⟨⟨_, in_nw (in_t6 (List.mem_of_getElem? (i := 38) rfl)) rfl⟩, sm_X11_replaced⟩
set_option maxRecDepth 10000 in
theorem lk_X11_9 : LkIN RX11 9 M_X8_init := ⟨⟨_, in_nw (in_t1 (List.mem_of_getElem? (i := 42) rfl)) rfl⟩, im_X8_init, rfl⟩
set_option maxRecDepth 10000 in
theorem fl_X11_10 : FLk RX11 10 11 0 := ⟨⟨in_tb (in_t2 (List.mem_of_getElem? (i := 186) rfl)) rfl, by decide⟩, by decide⟩
set_option maxRecDepth 10000 in
theorem lk_X11_18 : LkI RX11 18 M_X9_init := ⟨in_tb (in_t1 (List.mem_of_getElem? (i := 76) rfl)) rfl, im_X9_init, rfl⟩
set_option maxRecDepth 10000 in
theorem fl_X11_19 : FLk RX11 19 11 1 := ⟨⟨in_tb (in_t2 (List.mem_of_getElem? (i := 187) rfl)) rfl, by decide⟩, by decide⟩
set_option maxRecDepth 10000 in
theorem fl_X11_23 : FLk RX11 23 11 2 := ⟨⟨in_tb (in_t2 (List.mem_of_getElem? (i := 188) rfl)) rfl, by decide⟩, by decide⟩
set_option maxRecDepth 10000 in
theorem lk_X11_28 : LkIN RX11 28 M_X5_init := ⟨⟨_, in_nw (in_t1 (List.mem_of_getElem? (i := 210) rfl)) rfl⟩, im_X5_init, rfl⟩
set_option maxRecDepth 10000 in
theorem fl_X11_29 : FLk RX11 29 11 3 := ⟨⟨in_tb (in_t2 (List.mem_of_getElem? (i := 189) rfl)) rfl, by decide⟩, by decide⟩
set_option maxRecDepth 10000 in
theorem fl_X11_33 : FLk RX11 33 11 4 := ⟨⟨in_tb (in_t2 (List.mem_of_getElem? (i := 190) rfl)) rfl, by decide⟩, by decide⟩
set_option maxRecDepth 10000 in
theorem fl_X11_36 : FLk RX11 36 11 5 := ⟨⟨in_tb (in_t2 (List.mem_of_getElem? (i := 191) rfl)) rfl, by decide⟩, by decide⟩
set_option maxRecDepth 10000 in
theorem fl_X11_39 : FLk RX11 39 11 6 := ⟨⟨in_tb (in_t2 (List.mem_of_getElem? (i := 192) rfl)) rfl, by decide⟩, by decide⟩
set_option maxRecDepth 10000 in
theorem fl_X11_42 : FLk RX11 42 11 8 := ⟨⟨in_tb (in_t2 (List.mem_of_getElem? (i := 194) rfl)) rfl, by decide⟩, by decide⟩
set_option maxRecDepth 10000 in
theorem fl_X11_48 : FLk RX11 48 9 0 := ⟨⟨in_tb (in_t1 (List.mem_of_getElem? (i := 155) rfl)) rfl, by decide⟩, by decide⟩
set_option maxRecDepth 10000 in
theorem lk_X11_52 : LkI RX11 52 M_X10_init := ⟨in_tb (in_t1 (List.mem_of_getElem? (i := 231) rfl)) rfl, im_X10_init, rfl⟩
set_option maxRecDepth 10000 in
theorem fl_X11_55 : FLk RX11 55 11 11 := ⟨⟨in_tb (in_t2 (List.mem_of_getElem? (i := 197) rfl)) rfl, by decide⟩, by decide⟩
set_option maxRecDepth 10000 in
theorem lk_X11_61 : LkIN RX11 61 M_X4_init := ⟨⟨_, in_nw (in_t2 (List.mem_of_getElem? (i := 46) rfl)) rfl⟩, im_X4_init, rfl⟩
set_option maxRecDepth 10000 in
theorem fl_X11_62 : FLk RX11 62 11 12 := ⟨⟨in_tb (in_t2 (List.mem_of_getElem? (i := 198) rfl)) rfl, by decide⟩, by decide⟩
set_option maxRecDepth 10000 in
theorem fl_X11_66 : FLk RX11 66 11 13 := ⟨⟨in_tb (in_t2 (List.mem_of_getElem? (i := 199) rfl)) rfl, by decide⟩, by decide⟩
set_option maxRecDepth 10000 in
theorem lk_X11_71 : LkIN RX11 71 M_X2_init := ⟨⟨_, in_nw (in_t2 (List.mem_of_getElem? (i := 77) rfl)) rfl⟩, im_X2_init, rfl⟩
set_option maxRecDepth 10000 in
theorem fl_X11_72 : FLk RX11 72 11 14 := ⟨⟨in_tb (in_t2 (List.mem_of_getElem? (i := 200) rfl)) rfl, by decide⟩, by decide⟩
set_option maxRecDepth 10000 in
theorem lk_X11_78 : LkIN RX11 78 M_X7_init := ⟨⟨_, in_nw (in_t2 (List.mem_of_getElem? (i := 98) rfl)) rfl⟩, im_X7_init, rfl⟩
set_option maxRecDepth 10000 in
theorem fl_X11_79 : FLk RX11 79 11 15 := ⟨⟨in_tb (in_t2 (List.mem_of_getElem? (i := 201) rfl)) rfl, by decide⟩, by decide⟩
set_option maxRecDepth 10000 in
theorem lk_X11_85 : LkIN RX11 85 M_X0_init := ⟨⟨_, in_nw (in_t2 (List.mem_of_getElem? (i := 136) rfl)) rfl⟩, im_X0_init, rfl⟩
set_option maxRecDepth 10000 in
theorem fl_X11_86 : FLk RX11 86 11 16 := ⟨⟨in_tb (in_t2 (List.mem_of_getElem? (i := 202) rfl)) rfl, by decide⟩, by decide⟩
set_option maxRecDepth 10000 in
theorem lk_X11_92 : LkIN RX11 92 M_X3_init := ⟨⟨_, in_nw (in_t2 (List.mem_of_getElem? (i := 166) rfl)) rfl⟩, im_X3_init, rfl⟩
set_option maxRecDepth 10000 in
theorem fl_X11_93 : FLk RX11 93 11 17 := ⟨⟨in_tb (in_t2 (List.mem_of_getElem? (i := 203) rfl)) rfl, by decide⟩, by decide⟩
set_option maxRecDepth 10000 in
theorem fl_X11_97 : FLk RX11 97 8 1 := ⟨⟨in_tb (in_t1 (List.mem_of_getElem? (i := 47) rfl)) rfl, by decide⟩, by decide⟩
set_option maxRecDepth 10000 in
theorem lk_X11_101 : LkV RX11 101 M_X8_append := ⟨in_tb (in_t3 (List.mem_of_getElem? (i := 5) rfl)) rfl, im_X8_append, se_X8_append⟩
set_option maxRecDepth 10000 in
theorem lk_X11_105 : LkV RX11 105 M_X9_copyFrom := ⟨in_tb (in_t3 (List.mem_of_getElem? (i := 133) rfl)) rfl, im_X9_copyFrom, se_X9_copyFrom⟩
set_option maxRecDepth 10000 in
theorem lk_X11_109 : LkV RX11 109 M_X9_read := ⟨in_tb (in_t3 (List.mem_of_getElem? (i := 193) rfl)) rfl, im_X9_read, se_X9_read⟩
set_option maxRecDepth 10000 in
theorem fl_X11_116 : FLk RX11 116 9 7 := ⟨⟨in_tb (in_t1 (List.mem_of_getElem? (i := 172) rfl)) rfl, by decide⟩, by decide⟩
set_option maxRecDepth 10000 in
theorem lk_X11_122 : LkV RX11 122 M_X11_forgetActs := ⟨in_tb (in_t3 (List.mem_of_getElem? (i := 167) rfl)) rfl, im_X11_forgetActs, se_X11_forgetActs⟩
set_option maxRecDepth 10000 in
theorem lk_X11_125 : LkV RX11 125 M_X5_read := ⟨in_tb (in_t4 (List.mem_of_getElem? (i := 195) rfl)) rfl, im_X5_read, se_X5_read⟩
set_option maxRecDepth 10000 in
theorem lk_X11_126 : LkV RX11 126 M_X5_copyFrom := ⟨in_tb (in_t3 (List.mem_of_getElem? (i := 158) rfl)) rfl, im_X5_copyFrom, se_X5_copyFrom⟩
set_option maxRecDepth 10000 in
theorem fl_X11_129 : FLk RX11 129 5 0 := ⟨⟨in_tb (in_t1 (List.mem_of_getElem? (i := 215) rfl)) rfl, by decide⟩, by decide⟩
set_option maxRecDepth 10000 in
theorem fl_X11_132 : FLk RX11 132 8 6 := ⟨⟨in_tb (in_t1 (List.mem_of_getElem? (i := 57) rfl)) rfl, by decide⟩, by decide⟩
set_option maxRecDepth 10000 in
theorem lk_X11_135 : LkV RX11 135 M_X11_checkRule := ⟨in_tb (in_t5 (List.mem_of_getElem? (i := 8) rfl)) rfl, im_X11_checkRule, se_X11_checkRule⟩
set_option maxRecDepth 10000 in
theorem fl_X11_138 : FLk RX11 138 6 2 := ⟨⟨in_tb (in_t1 (List.mem_of_getElem? (i := 102) rfl)) rfl, by decide⟩, by decide⟩
set_option maxRecDepth 10000 in
theorem fl_X11_144 : FLk RX11 144 6 1 := ⟨⟨in_tb (in_t1 (List.mem_of_getElem? (i := 98) rfl)) rfl, by decide⟩, by decide⟩
set_option maxRecDepth 10000 in
theorem lk_X11_147 : LkV RX11 147 M_X11_checkField := ⟨in_tb (in_t5 (List.mem_of_getElem? (i := 34) rfl)) rfl, im_X11_checkField, se_X11_checkField⟩
set_option maxRecDepth 10000 in
theorem fl_X11_150 : FLk RX11 150 9 1 := ⟨⟨in_tb (in_t1 (List.mem_of_getElem? (i := 158) rfl)) rfl, by decide⟩, by decide⟩
set_option maxRecDepth 10000 in
theorem fl_X11_154 : FLk RX11 154 1 0 := ⟨⟨in_tb (in_t1 (List.mem_of_getElem? (i := 131) rfl)) rfl, by decide⟩, by decide⟩
set_option maxRecDepth 10000 in
theorem lk_X11_160 : LkV RX11 160 M_X11_checkSeen := ⟨in_tb (in_t5 (List.mem_of_getElem? (i := 45) rfl)) rfl, im_X11_checkSeen, se_X11_checkSeen⟩
set_option maxRecDepth 10000 in
theorem fl_X11_163 : FLk RX11 163 9 4 := ⟨⟨in_tb (in_t1 (List.mem_of_getElem? (i := 166) rfl)) rfl, by decide⟩, by decide⟩
set_option maxRecDepth 10000 in
theorem fl_X11_166 : FLk RX11 166 9 3 := ⟨⟨in_tb (in_t1 (List.mem_of_getElem? (i := 163) rfl)) rfl, by decide⟩, by decide⟩
set_option maxRecDepth 10000 in
theorem lk_X11_169 : LkS RX11 169 M_X11_checkCode := ⟨in_tb (in_t5 (List.mem_of_getElem? (i := 56) rfl)) rfl, sm_X11_checkCode⟩
set_option maxRecDepth 10000 in
theorem lk_X11_173 : LkS RX11 173 M_X11_sizeOf := ⟨in_tb (in_t3 (List.mem_of_getElem? (i := 37) rfl)) rfl, sm_X11_sizeOf⟩
set_option maxRecDepth 10000 in
theorem lk_X11_177 : LkS RX11 177 M_X11_beastAt := ⟨in_tb (in_t3 (List.mem_of_getElem? (i := 40) rfl)) rfl, sm_X11_beastAt⟩
set_option maxRecDepth 10000 in
theorem fl_X11_181 : FLk RX11 181 1 1 := ⟨⟨in_tb (in_t1 (List.mem_of_getElem? (i := 134) rfl)) rfl, by decide⟩, by decide⟩
set_option maxRecDepth 10000 in
theorem lk_X11_187 : LkS RX11 187 M_X11_checkWhat := ⟨in_tb (in_t5 (List.mem_of_getElem? (i := 77) rfl)) rfl, sm_X11_checkWhat⟩
set_option maxRecDepth 10000 in
theorem fl_X11_191 : FLk RX11 191 1 2 := ⟨⟨in_tb (in_t1 (List.mem_of_getElem? (i := 137) rfl)) rfl, by decide⟩, by decide⟩
set_option maxRecDepth 10000 in
theorem fl_X11_195 : FLk RX11 195 1 3 := ⟨⟨in_tb (in_t1 (List.mem_of_getElem? (i := 140) rfl)) rfl, by decide⟩, by decide⟩
set_option maxRecDepth 10000 in
theorem lk_X11_198 : LkV RX11 198 M_X10_begin := ⟨in_tb (in_t3 (List.mem_of_getElem? (i := 21) rfl)) rfl, im_X10_begin, se_X10_begin⟩
set_option maxRecDepth 10000 in
theorem lk_X11_201 : LkV RX11 201 M_X10_mayUse := ⟨in_tb (in_t5 (List.mem_of_getElem? (i := 102) rfl)) rfl, im_X10_mayUse, se_X10_mayUse⟩
set_option maxRecDepth 10000 in
theorem lk_X11_208 : LkV RX11 208 M_X11_remember := ⟨in_tb (in_t5 (List.mem_of_getElem? (i := 126) rfl)) rfl, im_X11_remember, se_X11_remember⟩
set_option maxRecDepth 10000 in
theorem lk_X11_211 : LkV RX11 211 M_X10_turn := ⟨in_tb (in_t5 (List.mem_of_getElem? (i := 130) rfl)) rfl, im_X10_turn, se_X10_turn⟩
set_option maxRecDepth 10000 in
theorem lk_X11_215 : LkS RX11 215 M_X11_checkNumber := ⟨in_tb (in_t5 (List.mem_of_getElem? (i := 154) rfl)) rfl, sm_X11_checkNumber⟩
set_option maxRecDepth 10000 in
theorem lk_X11_219 : LkV RX11 219 M_X10_goOn := ⟨in_tb (in_t5 (List.mem_of_getElem? (i := 157) rfl)) rfl, im_X10_goOn, se_X10_goOn⟩
set_option maxRecDepth 10000 in
theorem lk_X11_223 : LkV RX11 223 M_X1_tell := ⟨in_tb (in_t5 (List.mem_of_getElem? (i := 168) rfl)) rfl, im_X1_tell, se_X1_tell⟩
set_option maxRecDepth 10000 in
theorem lk_X11_226 : LkV RX11 226 M_X11_addRule := ⟨in_tb (in_t5 (List.mem_of_getElem? (i := 176) rfl)) rfl, im_X11_addRule, se_X11_addRule⟩
set_option maxRecDepth 10000 in
theorem fl_X11_230 : FLk RX11 230 6 0 := ⟨⟨in_tb (in_t1 (List.mem_of_getElem? (i := 92) rfl)) rfl, by decide⟩, by decide⟩
set_option maxRecDepth 10000 in
theorem lk_X11_231 : LkV RX11 231 M_X6_append := ⟨in_tb (in_t5 (List.mem_of_getElem? (i := 180) rfl)) rfl, im_X6_append, se_X6_append⟩
set_option maxRecDepth 10000 in
theorem lk_X11_234 : LkV RX11 234 M_X6_remove := ⟨in_tb (in_t5 (List.mem_of_getElem? (i := 188) rfl)) rfl, im_X6_remove, se_X6_remove⟩
set_option maxRecDepth 10000 in
theorem lk_X11_237 : LkV RX11 237 M_X11_goYear := ⟨in_tb (in_t5 (List.mem_of_getElem? (i := 196) rfl)) rfl, im_X11_goYear, se_X11_goYear⟩
set_option maxRecDepth 10000 in
theorem lk_X11_240 : LkV RX11 240 M_X9_draw := ⟨in_tb (in_t5 (List.mem_of_getElem? (i := 200) rfl)) rfl, im_X9_draw, se_X9_draw⟩
set_option maxRecDepth 10000 in
theorem fl_X11_244 : FLk RX11 244 9 9 := ⟨⟨in_tb (in_t1 (List.mem_of_getElem? (i := 177) rfl)) rfl, by decide⟩, by decide⟩
set_option maxRecDepth 10000 in
theorem lk_X11_247 : LkV RX11 247 M_X10_listTurns := ⟨in_tb (in_t5 (List.mem_of_getElem? (i := 205) rfl)) rfl, im_X10_listTurns, se_X10_listTurns⟩
set_option maxRecDepth 10000 in
theorem fl_X11_250 : FLk RX11 250 10 7 := ⟨⟨in_tb (in_t2 (List.mem_of_getElem? (i := 8) rfl)) rfl, by decide⟩, by decide⟩
set_option maxRecDepth 10000 in
theorem fl_X11_253 : FLk RX11 253 9 10 := ⟨⟨in_tb (in_t1 (List.mem_of_getElem? (i := 180) rfl)) rfl, by decide⟩, by decide⟩
set_option maxRecDepth 10000 in
theorem lk_X11_256 : LkV RX11 256 M_X10_settle := ⟨in_tb (in_t3 (List.mem_of_getElem? (i := 48) rfl)) rfl, im_X10_settle, se_X10_settle⟩
set_option maxRecDepth 10000 in
theorem cn_X11_260 : Cond.constantLong RX11 260 (-1) ∈ tbw := in_tb (in_t3 (List.mem_of_getElem? (i := 82) rfl)) rfl
set_option maxRecDepth 10000 in
theorem fl_X11_262 : FLk RX11 262 10 6 := ⟨⟨in_tb (in_t2 (List.mem_of_getElem? (i := 4) rfl)) rfl, by decide⟩, by decide⟩
set_option maxRecDepth 10000 in
theorem lk_X11_263 : LkV RX11 263 M_X4_begin := ⟨in_tb (in_t5 (List.mem_of_getElem? (i := 223) rfl)) rfl, im_X4_begin, se_X4_begin⟩
set_option maxRecDepth 10000 in
theorem lk_X11_265 : LkV RX11 265 M_X10_next := ⟨in_tb (in_t5 (List.mem_of_getElem? (i := 237) rfl)) rfl, im_X10_next, se_X10_next⟩
set_option maxRecDepth 10000 in
theorem lk_X11_269 : LkV RX11 269 M_X4_indexOf := ⟨in_tb (in_t6 (List.mem_of_getElem? (i := 1) rfl)) rfl, im_X4_indexOf, se_X4_indexOf⟩
set_option maxRecDepth 10000 in
theorem lk_X11_272 : LkV RX11 272 M_X4_take := ⟨in_tb (in_t6 (List.mem_of_getElem? (i := 5) rfl)) rfl, im_X4_take, se_X4_take⟩
set_option maxRecDepth 10000 in
theorem lk_X11_276 : LkV RX11 276 M_X6_kindsOfLefts := ⟨in_tb (in_t3 (List.mem_of_getElem? (i := 30) rfl)) rfl, im_X6_kindsOfLefts, se_X6_kindsOfLefts⟩
set_option maxRecDepth 10000 in
theorem lk_X11_279 : LkS RX11 279 M_X11_figures := ⟨in_tb (in_t3 (List.mem_of_getElem? (i := 44) rfl)) rfl, sm_X11_figures⟩
set_option maxRecDepth 10000 in
theorem lk_X11_283 : LkS RX11 283 M_X11_kindsIn := ⟨in_tb (in_t3 (List.mem_of_getElem? (i := 47) rfl)) rfl, sm_X11_kindsIn⟩
set_option maxRecDepth 10000 in
theorem lk_X11_286 : LkV RX11 286 M_X11_reckonsSums := ⟨in_tb (in_t6 (List.mem_of_getElem? (i := 210) rfl)) rfl, im_X11_reckonsSums, se_X11_reckonsSums⟩
set_option maxRecDepth 10000 in
theorem lk_X11_289 : LkV RX11 289 M_X11_reckonsOrder := ⟨in_tb (in_t6 (List.mem_of_getElem? (i := 219) rfl)) rfl, im_X11_reckonsOrder, se_X11_reckonsOrder⟩
set_option maxRecDepth 10000 in
theorem lk_X11_292 : LkV RX11 292 M_X11_reckonsEach := ⟨in_tb (in_t6 (List.mem_of_getElem? (i := 223) rfl)) rfl, im_X11_reckonsEach, se_X11_reckonsEach⟩
set_option maxRecDepth 10000 in
theorem lk_X11_296 : LkS RX11 296 M_X11_withBeasts := ⟨in_tb (in_t6 (List.mem_of_getElem? (i := 214) rfl)) rfl, sm_X11_withBeasts⟩
set_option maxRecDepth 10000 in
theorem lk_X11_300 : LkV RX11 300 M_X11_settlesTo := ⟨in_tb (in_t6 (List.mem_of_getElem? (i := 215) rfl)) rfl, im_X11_settlesTo, se_X11_settlesTo⟩
set_option maxRecDepth 10000 in
theorem lk_X11_304 : LkS RX11 304 M_J6_bitCount_0f7a4 := ⟨in_tb (in_t3 (List.mem_of_getElem? (i := 90) rfl)) rfl, sm_J6_bitCount_0f7a4⟩
set_option maxRecDepth 10000 in
theorem lk_X11_310 : LkS RX11 310 M_J9_min_7cf53 := ⟨in_tb (in_t3 (List.mem_of_getElem? (i := 87) rfl)) rfl, sm_J9_min_7cf53⟩
set_option maxRecDepth 10000 in
theorem lk_X11_316 : LkV RX11 316 M_X11_settlesWithout := ⟨in_tb (in_t3 (List.mem_of_getElem? (i := 96) rfl)) rfl, im_X11_settlesWithout, se_X11_settlesWithout⟩
set_option maxRecDepth 10000 in
theorem fl_X11_320 : FLk RX11 320 10 5 := ⟨⟨in_tb (in_t2 (List.mem_of_getElem? (i := 2) rfl)) rfl, by decide⟩, by decide⟩
set_option maxRecDepth 10000 in
theorem fl_X11_323 : FLk RX11 323 9 2 := ⟨⟨in_tb (in_t1 (List.mem_of_getElem? (i := 160) rfl)) rfl, by decide⟩, by decide⟩
set_option maxRecDepth 10000 in
theorem lk_X11_326 : LkV RX11 326 M_X4_spread := ⟨in_tb (in_t6 (List.mem_of_getElem? (i := 20) rfl)) rfl, im_X4_spread, se_X4_spread⟩
set_option maxRecDepth 10000 in
theorem cn_X11_330 : Cond.constantLong RX11 330 (-3) ∈ tbw := in_tb (in_t6 (List.mem_of_getElem? (i := 39) rfl)) rfl
set_option maxRecDepth 10000 in
theorem fl_X11_332 : FLk RX11 332 4 0 := ⟨⟨in_tb (in_t2 (List.mem_of_getElem? (i := 52) rfl)) rfl, by decide⟩, by decide⟩
set_option maxRecDepth 10000 in
theorem lk_X11_333 : LkV RX11 333 M_X4_mostBeasts := ⟨in_tb (in_t6 (List.mem_of_getElem? (i := 40) rfl)) rfl, im_X4_mostBeasts, se_X4_mostBeasts⟩
set_option maxRecDepth 10000 in
theorem lk_X11_336 : LkV RX11 336 M_X4_countSettled := ⟨in_tb (in_t6 (List.mem_of_getElem? (i := 48) rfl)) rfl, im_X4_countSettled, se_X4_countSettled⟩
set_option maxRecDepth 10000 in
theorem lk_X11_340 : LkV RX11 340 M_X4_leastSettled := ⟨in_tb (in_t6 (List.mem_of_getElem? (i := 56) rfl)) rfl, im_X4_leastSettled, se_X4_leastSettled⟩
set_option maxRecDepth 10000 in
theorem lk_X11_344 : LkV RX11 344 M_X4_goesOn := ⟨in_tb (in_t6 (List.mem_of_getElem? (i := 68) rfl)) rfl, im_X4_goesOn, se_X4_goesOn⟩
set_option maxRecDepth 10000 in
theorem lk_X11_348 : LkV RX11 348 M_X4_spreadOnce := ⟨in_tb (in_t6 (List.mem_of_getElem? (i := 69) rfl)) rfl, im_X4_spreadOnce, se_X4_spreadOnce⟩
set_option maxRecDepth 10000 in
theorem fl_X11_352 : FLk RX11 352 4 1 := ⟨⟨in_tb (in_t2 (List.mem_of_getElem? (i := 55) rfl)) rfl, by decide⟩, by decide⟩
set_option maxRecDepth 10000 in
theorem fl_X11_355 : FLk RX11 355 4 2 := ⟨⟨in_tb (in_t2 (List.mem_of_getElem? (i := 58) rfl)) rfl, by decide⟩, by decide⟩
set_option maxRecDepth 10000 in
theorem lk_X11_358 : LkV RX11 358 M_X11_play := ⟨in_tb (in_t7 (List.mem_of_getElem? (i := 29) rfl)) rfl, im_X11_play, se_X11_play⟩
set_option maxRecDepth 10000 in
theorem fl_X11_361 : FLk RX11 361 2 0 := ⟨⟨in_tb (in_t2 (List.mem_of_getElem? (i := 82) rfl)) rfl, by decide⟩, by decide⟩
set_option maxRecDepth 10000 in
theorem fl_X11_364 : FLk RX11 364 2 1 := ⟨⟨in_tb (in_t2 (List.mem_of_getElem? (i := 84) rfl)) rfl, by decide⟩, by decide⟩
set_option maxRecDepth 10000 in
theorem lk_X11_366 : LkV RX11 366 M_X2_play := ⟨in_tb (in_t7 (List.mem_of_getElem? (i := 33) rfl)) rfl, im_X2_play, se_X2_play⟩
set_option maxRecDepth 10000 in
theorem lk_X11_369 : LkV RX11 369 M_X10_beginLawless := ⟨in_tb (in_t6 (List.mem_of_getElem? (i := 84) rfl)) rfl, im_X10_beginLawless, se_X10_beginLawless⟩
set_option maxRecDepth 10000 in
theorem lk_X11_372 : LkV RX11 372 M_X0_survey := ⟨in_tb (in_t6 (List.mem_of_getElem? (i := 88) rfl)) rfl, im_X0_survey, se_X0_survey⟩
set_option maxRecDepth 10000 in
theorem fl_X11_376 : FLk RX11 376 0 0 := ⟨⟨in_tb (in_t2 (List.mem_of_getElem? (i := 141) rfl)) rfl, by decide⟩, by decide⟩
set_option maxRecDepth 10000 in
theorem fl_X11_379 : FLk RX11 379 0 1 := ⟨⟨in_tb (in_t2 (List.mem_of_getElem? (i := 143) rfl)) rfl, by decide⟩, by decide⟩
set_option maxRecDepth 10000 in
theorem fl_X11_382 : FLk RX11 382 0 2 := ⟨⟨in_tb (in_t2 (List.mem_of_getElem? (i := 145) rfl)) rfl, by decide⟩, by decide⟩
set_option maxRecDepth 10000 in
theorem fl_X11_385 : FLk RX11 385 0 3 := ⟨⟨in_tb (in_t2 (List.mem_of_getElem? (i := 147) rfl)) rfl, by decide⟩, by decide⟩
set_option maxRecDepth 10000 in
theorem fl_X11_388 : FLk RX11 388 0 4 := ⟨⟨in_tb (in_t2 (List.mem_of_getElem? (i := 149) rfl)) rfl, by decide⟩, by decide⟩
set_option maxRecDepth 10000 in
theorem lk_X11_391 : LkS RX11 391 M_X11_checkBeastOrNone := ⟨in_tb (in_t6 (List.mem_of_getElem? (i := 125) rfl)) rfl, sm_X11_checkBeastOrNone⟩
set_option maxRecDepth 10000 in
theorem lk_X11_394 : LkV RX11 394 M_X6_kinds := ⟨in_tb (in_t6 (List.mem_of_getElem? (i := 128) rfl)) rfl, im_X6_kinds, se_X6_kinds⟩
set_option maxRecDepth 10000 in
theorem lk_X11_397 : LkV RX11 397 M_X7_list := ⟨in_tb (in_t6 (List.mem_of_getElem? (i := 137) rfl)) rfl, im_X7_list, se_X7_list⟩
set_option maxRecDepth 10000 in
theorem lk_X11_401 : LkV RX11 401 M_X7_loadRules := ⟨in_tb (in_t6 (List.mem_of_getElem? (i := 142) rfl)) rfl, im_X7_loadRules, se_X7_loadRules⟩
set_option maxRecDepth 10000 in
theorem lk_X11_405 : LkV RX11 405 M_X7_loadPair := ⟨in_tb (in_t6 (List.mem_of_getElem? (i := 157) rfl)) rfl, im_X7_loadPair, se_X7_loadPair⟩
set_option maxRecDepth 10000 in
theorem lk_X11_408 : LkV RX11 408 M_X7_findModulo := ⟨in_tb (in_t6 (List.mem_of_getElem? (i := 158) rfl)) rfl, im_X7_findModulo, se_X7_findModulo⟩
set_option maxRecDepth 10000 in
theorem fl_X11_411 : FLk RX11 411 7 0 := ⟨⟨in_tb (in_t2 (List.mem_of_getElem? (i := 103) rfl)) rfl, by decide⟩, by decide⟩
set_option maxRecDepth 10000 in
theorem lk_X11_414 : LkV RX11 414 M_X7_findFalling := ⟨in_tb (in_t6 (List.mem_of_getElem? (i := 181) rfl)) rfl, im_X7_findFalling, se_X7_findFalling⟩
set_option maxRecDepth 10000 in
theorem lk_X11_417 : LkV RX11 417 M_X9_weigh := ⟨in_tb (in_t6 (List.mem_of_getElem? (i := 192) rfl)) rfl, im_X9_weigh, se_X9_weigh⟩
set_option maxRecDepth 10000 in
theorem lk_X11_420 : LkV RX11 420 M_X9_explaining := ⟨in_tb (in_t6 (List.mem_of_getElem? (i := 234) rfl)) rfl, im_X9_explaining, se_X9_explaining⟩
set_option maxRecDepth 10000 in
theorem lk_X11_423 : LkV RX11 423 M_X3_fewestTelling := ⟨in_tb (in_t3 (List.mem_of_getElem? (i := 104) rfl)) rfl, im_X3_fewestTelling, se_X3_fewestTelling⟩
set_option maxRecDepth 10000 in
theorem lk_X11_427 : LkV RX11 427 M_X3_survey := ⟨in_tb (in_t7 (List.mem_of_getElem? (i := 2) rfl)) rfl, im_X3_survey, se_X3_survey⟩
set_option maxRecDepth 10000 in
theorem fl_X11_429 : FLk RX11 429 3 0 := ⟨⟨in_tb (in_t2 (List.mem_of_getElem? (i := 171) rfl)) rfl, by decide⟩, by decide⟩
set_option maxRecDepth 10000 in
theorem fl_X11_430 : FLk RX11 430 3 1 := ⟨⟨in_tb (in_t2 (List.mem_of_getElem? (i := 173) rfl)) rfl, by decide⟩, by decide⟩
set_option maxRecDepth 10000 in
theorem fl_X11_433 : FLk RX11 433 3 2 := ⟨⟨in_tb (in_t2 (List.mem_of_getElem? (i := 175) rfl)) rfl, by decide⟩, by decide⟩
set_option maxRecDepth 10000 in
theorem lk_X11_436 : LkV RX11 436 M_X6_kindsOfRights := ⟨in_tb (in_t7 (List.mem_of_getElem? (i := 60) rfl)) rfl, im_X6_kindsOfRights, se_X6_kindsOfRights⟩
set_option maxRecDepth 10000 in
theorem lk_X11_439 : LkV RX11 439 M_X6_shrinking := ⟨in_tb (in_t7 (List.mem_of_getElem? (i := 61) rfl)) rfl, im_X6_shrinking, se_X6_shrinking⟩
set_option maxRecDepth 10000 in
theorem lk_X11_442 : LkV RX11 442 M_X6_growing := ⟨in_tb (in_t7 (List.mem_of_getElem? (i := 65) rfl)) rfl, im_X6_growing, se_X6_growing⟩
set_option maxRecDepth 10000 in
theorem fl_X11_445 : FLk RX11 445 9 11 := ⟨⟨in_tb (in_t1 (List.mem_of_getElem? (i := 182) rfl)) rfl, by decide⟩, by decide⟩
set_option maxRecDepth 10000 in
theorem fl_X11_448 : FLk RX11 448 11 9 := ⟨⟨in_tb (in_t2 (List.mem_of_getElem? (i := 195) rfl)) rfl, by decide⟩, by decide⟩
set_option maxRecDepth 10000 in
theorem fl_X11_451 : FLk RX11 451 11 10 := ⟨⟨in_tb (in_t2 (List.mem_of_getElem? (i := 196) rfl)) rfl, by decide⟩, by decide⟩
set_option maxRecDepth 10000 in
theorem fl_X11_454 : FLk RX11 454 11 7 := ⟨⟨in_tb (in_t2 (List.mem_of_getElem? (i := 193) rfl)) rfl, by decide⟩, by decide⟩
set_option maxRecDepth 10000 in
theorem fl_X11_458 : FLk RX11 458 9 5 := ⟨⟨in_tb (in_t1 (List.mem_of_getElem? (i := 169) rfl)) rfl, by decide⟩, by decide⟩
set_option maxRecDepth 10000 in
theorem fl_X11_461 : FLk RX11 461 9 8 := ⟨⟨in_tb (in_t1 (List.mem_of_getElem? (i := 175) rfl)) rfl, by decide⟩, by decide⟩
set_option maxRecDepth 10000 in
theorem lk_X11_464 : LkV RX11 464 M_X9_stepsOfAll := ⟨in_tb (in_t3 (List.mem_of_getElem? (i := 175) rfl)) rfl, im_X9_stepsOfAll, se_X9_stepsOfAll⟩
set_option maxRecDepth 10000 in
theorem lk_X11_467 : LkV RX11 467 M_X9_beastsOfAll := ⟨in_tb (in_t3 (List.mem_of_getElem? (i := 179) rfl)) rfl, im_X9_beastsOfAll, se_X9_beastsOfAll⟩
set_option maxRecDepth 10000 in
theorem lk_X11_470 : LkS RX11 470 M_X11_isCode := ⟨in_tb (in_t5 (List.mem_of_getElem? (i := 59) rfl)) rfl, sm_X11_isCode⟩
set_option maxRecDepth 10000 in
theorem cn_X11_477 : Cond.constantLong RX11 477 (7) ∈ tbw := in_tb (in_t3 (List.mem_of_getElem? (i := 43) rfl)) rfl
set_option maxRecDepth 10000 in
theorem lk_X11_479 : LkS RX11 479 M_X11_withPart := ⟨in_tb (in_t3 (List.mem_of_getElem? (i := 119) rfl)) rfl, sm_X11_withPart⟩
set_option maxRecDepth 10000 in
theorem lk_X11_483 : LkS RX11 483 M_X11_standsIn := ⟨in_tb (in_t3 (List.mem_of_getElem? (i := 115) rfl)) rfl, sm_X11_standsIn⟩
set_option maxRecDepth 10000 in
theorem lk_X11_487 : LkS RX11 487 M_X11_replaced := ⟨in_tb (in_t3 (List.mem_of_getElem? (i := 116) rfl)) rfl, sm_X11_replaced⟩
set_option maxRecDepth 10000 in
theorem fl_X12_3 : FLk RX12 3 12 0 := ⟨⟨in_tb (in_t7 (List.mem_of_getElem? (i := 79) rfl)) rfl, by decide⟩, by decide⟩
set_option maxRecDepth 10000 in
theorem lk_X12_7 : LkS RX12 7 M_J13_numberOfLeadingZeros_95d88 := ⟨in_tb (in_t8 (List.mem_of_getElem? (i := 126) rfl)) rfl, sm_J13_numberOfLeadingZeros_95d88⟩
set_option maxRecDepth 10000 in
theorem lk_X12_13 : LkS RX12 13 M_X12_size := ⟨in_tb (in_t8 (List.mem_of_getElem? (i := 123) rfl)) rfl, sm_X12_size⟩
set_option maxRecDepth 10000 in
theorem lk_X12_16 : LkS RX12 16 M_X12_behind := ⟨in_tb (in_t9 (List.mem_of_getElem? (i := 34) rfl)) rfl, sm_X12_behind⟩
set_option maxRecDepth 10000 in
theorem lk_X12_20 : LkS RX12 20 M_X12_ahead := ⟨in_tb (in_t9 (List.mem_of_getElem? (i := 37) rfl)) rfl, sm_X12_ahead⟩
set_option maxRecDepth 10000 in
theorem fl_X12_29 : FLk RX12 29 12 1 := ⟨⟨in_tb (in_t7 (List.mem_of_getElem? (i := 80) rfl)) rfl, by decide⟩, by decide⟩
set_option maxRecDepth 10000 in
theorem fl_X12_33 : FLk RX12 33 12 2 := ⟨⟨in_tb (in_t7 (List.mem_of_getElem? (i := 81) rfl)) rfl, by decide⟩, by decide⟩
set_option maxRecDepth 10000 in
theorem fl_X12_36 : FLk RX12 36 12 3 := ⟨⟨in_tb (in_t7 (List.mem_of_getElem? (i := 82) rfl)) rfl, by decide⟩, by decide⟩
set_option maxRecDepth 10000 in
theorem fl_X12_39 : FLk RX12 39 12 4 := ⟨⟨in_tb (in_t7 (List.mem_of_getElem? (i := 83) rfl)) rfl, by decide⟩, by decide⟩
set_option maxRecDepth 10000 in
theorem fl_X12_42 : FLk RX12 42 12 7 := ⟨⟨in_tb (in_t7 (List.mem_of_getElem? (i := 86) rfl)) rfl, by decide⟩, by decide⟩
set_option maxRecDepth 10000 in
theorem fl_X12_46 : FLk RX12 46 12 13 := ⟨⟨in_tb (in_t7 (List.mem_of_getElem? (i := 92) rfl)) rfl, by decide⟩, by decide⟩
set_option maxRecDepth 10000 in
theorem fl_X12_49 : FLk RX12 49 12 14 := ⟨⟨in_tb (in_t7 (List.mem_of_getElem? (i := 93) rfl)) rfl, by decide⟩, by decide⟩
set_option maxRecDepth 10000 in
theorem fl_X12_52 : FLk RX12 52 12 18 := ⟨⟨in_tb (in_t7 (List.mem_of_getElem? (i := 97) rfl)) rfl, by decide⟩, by decide⟩
set_option maxRecDepth 10000 in
theorem fl_X12_55 : FLk RX12 55 12 23 := ⟨⟨in_tb (in_t7 (List.mem_of_getElem? (i := 102) rfl)) rfl, by decide⟩, by decide⟩
set_option maxRecDepth 10000 in
theorem fl_X12_58 : FLk RX12 58 12 25 := ⟨⟨in_tb (in_t7 (List.mem_of_getElem? (i := 104) rfl)) rfl, by decide⟩, by decide⟩
set_option maxRecDepth 10000 in
theorem fl_X12_62 : FLk RX12 62 12 26 := ⟨⟨in_tb (in_t7 (List.mem_of_getElem? (i := 105) rfl)) rfl, by decide⟩, by decide⟩
set_option maxRecDepth 10000 in
theorem fl_X12_65 : FLk RX12 65 12 27 := ⟨⟨in_tb (in_t7 (List.mem_of_getElem? (i := 106) rfl)) rfl, by decide⟩, by decide⟩
set_option maxRecDepth 10000 in
theorem fl_X12_68 : FLk RX12 68 12 28 := ⟨⟨in_tb (in_t7 (List.mem_of_getElem? (i := 107) rfl)) rfl, by decide⟩, by decide⟩
set_option maxRecDepth 10000 in
theorem fl_X12_71 : FLk RX12 71 12 30 := ⟨⟨in_tb (in_t7 (List.mem_of_getElem? (i := 109) rfl)) rfl, by decide⟩, by decide⟩
set_option maxRecDepth 10000 in
theorem fl_X12_74 : FLk RX12 74 12 31 := ⟨⟨in_tb (in_t7 (List.mem_of_getElem? (i := 110) rfl)) rfl, by decide⟩, by decide⟩
set_option maxRecDepth 10000 in
theorem fl_X12_77 : FLk RX12 77 12 41 := ⟨⟨in_tb (in_t7 (List.mem_of_getElem? (i := 120) rfl)) rfl, by decide⟩, by decide⟩
set_option maxRecDepth 10000 in
theorem fl_X12_80 : FLk RX12 80 12 42 := ⟨⟨in_tb (in_t7 (List.mem_of_getElem? (i := 121) rfl)) rfl, by decide⟩, by decide⟩
set_option maxRecDepth 10000 in
theorem fl_X12_83 : FLk RX12 83 12 44 := ⟨⟨in_tb (in_t7 (List.mem_of_getElem? (i := 123) rfl)) rfl, by decide⟩, by decide⟩
set_option maxRecDepth 10000 in
theorem fl_X12_86 : FLk RX12 86 12 45 := ⟨⟨in_tb (in_t7 (List.mem_of_getElem? (i := 124) rfl)) rfl, by decide⟩, by decide⟩
set_option maxRecDepth 10000 in
theorem fl_X12_89 : FLk RX12 89 12 46 := ⟨⟨in_tb (in_t7 (List.mem_of_getElem? (i := 125) rfl)) rfl, by decide⟩, by decide⟩
set_option maxRecDepth 10000 in
theorem fl_X12_92 : FLk RX12 92 12 48 := ⟨⟨in_tb (in_t7 (List.mem_of_getElem? (i := 127) rfl)) rfl, by decide⟩, by decide⟩
set_option maxRecDepth 10000 in
theorem fl_X12_95 : FLk RX12 95 12 49 := ⟨⟨in_tb (in_t7 (List.mem_of_getElem? (i := 128) rfl)) rfl, by decide⟩, by decide⟩
set_option maxRecDepth 10000 in
theorem fl_X12_98 : FLk RX12 98 12 5 := ⟨⟨in_tb (in_t7 (List.mem_of_getElem? (i := 84) rfl)) rfl, by decide⟩, by decide⟩
set_option maxRecDepth 10000 in
theorem fl_X12_102 : FLk RX12 102 12 6 := ⟨⟨in_tb (in_t7 (List.mem_of_getElem? (i := 85) rfl)) rfl, by decide⟩, by decide⟩
set_option maxRecDepth 10000 in
theorem cn_X12_105 : Cond.constantLong RX12 105 (4294967295) ∈ tbw := in_tb (in_t8 (List.mem_of_getElem? (i := 228) rfl)) rfl
set_option maxRecDepth 10000 in
theorem lk_X12_107 : LkV RX12 107 M_X12_left := ⟨in_tb (in_t8 (List.mem_of_getElem? (i := 208) rfl)) rfl, im_X12_left, se_X12_left⟩
set_option maxRecDepth 10000 in
theorem lk_X12_111 : LkV RX12 111 M_X12_right := ⟨in_tb (in_t8 (List.mem_of_getElem? (i := 204) rfl)) rfl, im_X12_right, se_X12_right⟩
set_option maxRecDepth 10000 in
theorem lk_X12_114 : LkS RX12 114 M_X12_at := ⟨in_tb (in_t8 (List.mem_of_getElem? (i := 91) rfl)) rfl, sm_X12_at⟩
set_option maxRecDepth 10000 in
theorem lk_X12_118 : LkV RX12 118 M_X12_codeAt := ⟨in_tb (in_t8 (List.mem_of_getElem? (i := 224) rfl)) rfl, im_X12_codeAt, se_X12_codeAt⟩
set_option maxRecDepth 10000 in
theorem lk_X12_121 : LkV RX12 121 M_X12_rules := ⟨in_tb (in_t8 (List.mem_of_getElem? (i := 60) rfl)) rfl, im_X12_rules, se_X12_rules⟩
set_option maxRecDepth 10000 in
theorem lk_X12_125 : LkS RX12 125 M_X12_in := ⟨in_tb (in_t8 (List.mem_of_getElem? (i := 201) rfl)) rfl, sm_X12_in⟩
set_option maxRecDepth 10000 in
theorem lk_X12_129 : LkV RX12 129 M_X12_fields := ⟨in_tb (in_t8 (List.mem_of_getElem? (i := 83) rfl)) rfl, im_X12_fields, se_X12_fields⟩
set_option maxRecDepth 10000 in
theorem lk_X12_132 : LkV RX12 132 M_X12_putsCode := ⟨in_tb (in_t8 (List.mem_of_getElem? (i := 94) rfl)) rfl, im_X12_putsCode, se_X12_putsCode⟩
set_option maxRecDepth 10000 in
theorem fl_X12_136 : FLk RX12 136 12 8 := ⟨⟨in_tb (in_t7 (List.mem_of_getElem? (i := 87) rfl)) rfl, by decide⟩, by decide⟩
set_option maxRecDepth 10000 in
theorem fl_X12_139 : FLk RX12 139 12 9 := ⟨⟨in_tb (in_t7 (List.mem_of_getElem? (i := 88) rfl)) rfl, by decide⟩, by decide⟩
set_option maxRecDepth 10000 in
theorem fl_X12_142 : FLk RX12 142 12 10 := ⟨⟨in_tb (in_t7 (List.mem_of_getElem? (i := 89) rfl)) rfl, by decide⟩, by decide⟩
set_option maxRecDepth 10000 in
theorem lk_X12_145 : LkV RX12 145 M_X12_isAt := ⟨in_tb (in_t8 (List.mem_of_getElem? (i := 33) rfl)) rfl, im_X12_isAt, se_X12_isAt⟩
set_option maxRecDepth 10000 in
theorem fl_X12_149 : FLk RX12 149 12 11 := ⟨⟨in_tb (in_t7 (List.mem_of_getElem? (i := 90) rfl)) rfl, by decide⟩, by decide⟩
set_option maxRecDepth 10000 in
theorem lk_X12_152 : LkV RX12 152 M_X12_blanks := ⟨in_tb (in_t8 (List.mem_of_getElem? (i := 29) rfl)) rfl, im_X12_blanks, se_X12_blanks⟩
set_option maxRecDepth 10000 in
theorem lk_X12_155 : LkV RX12 155 M_J0_length_8abf5 := ⟨in_tb (in_t8 (List.mem_of_getElem? (i := 54) rfl)) rfl, im_J0_length_8abf5, se_J0_length_8abf5⟩
set_option maxRecDepth 10000 in
theorem lk_X12_160 : LkV RX12 160 M_J0_charAt_5068e := ⟨in_tb (in_t8 (List.mem_of_getElem? (i := 55) rfl)) rfl, im_J0_charAt_5068e, se_J0_charAt_5068e⟩
set_option maxRecDepth 10000 in
theorem lk_X12_164 : LkV RX12 164 M_X12_letters := ⟨in_tb (in_t8 (List.mem_of_getElem? (i := 41) rfl)) rfl, im_X12_letters, se_X12_letters⟩
set_option maxRecDepth 10000 in
theorem lk_X12_167 : LkV RX12 167 M_X12_isWord := ⟨in_tb (in_t8 (List.mem_of_getElem? (i := 50) rfl)) rfl, im_X12_isWord, se_X12_isWord⟩
set_option maxRecDepth 10000 in
theorem cn_X12_171 : Cond.constantLong RX12 171 (-1) ∈ tbw := in_tb (in_t8 (List.mem_of_getElem? (i := 68) rfl)) rfl
set_option maxRecDepth 10000 in
theorem lk_X12_173 : LkV RX12 173 M_X12_beastsTold := ⟨in_tb (in_t8 (List.mem_of_getElem? (i := 64) rfl)) rfl, im_X12_beastsTold, se_X12_beastsTold⟩
set_option maxRecDepth 10000 in
theorem lk_X12_179 : LkV RX12 179 M_X12_needs := ⟨in_tb (in_t8 (List.mem_of_getElem? (i := 70) rfl)) rfl, im_X12_needs, se_X12_needs⟩
set_option maxRecDepth 10000 in
theorem lk_X12_182 : LkV RX12 182 M_X12_adds := ⟨in_tb (in_t8 (List.mem_of_getElem? (i := 74) rfl)) rfl, im_X12_adds, se_X12_adds⟩
set_option maxRecDepth 10000 in
theorem lk_X12_186 : LkV RX12 186 M_X12_tells := ⟨in_tb (in_t8 (List.mem_of_getElem? (i := 87) rfl)) rfl, im_X12_tells, se_X12_tells⟩
set_option maxRecDepth 10000 in
theorem lk_X12_195 : LkV RX12 195 M_X12_number := ⟨in_tb (in_t8 (List.mem_of_getElem? (i := 116) rfl)) rfl, im_X12_number, se_X12_number⟩
set_option maxRecDepth 10000 in
theorem lk_X12_199 : LkS RX12 199 M_X12_beastOf := ⟨in_tb (in_t8 (List.mem_of_getElem? (i := 120) rfl)) rfl, sm_X12_beastOf⟩
set_option maxRecDepth 10000 in
theorem lk_X12_203 : LkV RX12 203 M_X12_readRule := ⟨in_tb (in_t8 (List.mem_of_getElem? (i := 56) rfl)) rfl, im_X12_readRule, se_X12_readRule⟩
set_option maxRecDepth 10000 in
theorem lk_X12_209 : LkV RX12 209 M_X12_readField := ⟨in_tb (in_t8 (List.mem_of_getElem? (i := 79) rfl)) rfl, im_X12_readField, se_X12_readField⟩
set_option maxRecDepth 10000 in
theorem lk_X12_214 : LkV RX12 214 M_X12_readSeen := ⟨in_tb (in_t8 (List.mem_of_getElem? (i := 99) rfl)) rfl, im_X12_readSeen, se_X12_readSeen⟩
set_option maxRecDepth 10000 in
theorem lk_X12_219 : LkV RX12 219 M_X12_readFirst := ⟨in_tb (in_t8 (List.mem_of_getElem? (i := 104) rfl)) rfl, im_X12_readFirst, se_X12_readFirst⟩
set_option maxRecDepth 10000 in
theorem lk_X12_224 : LkV RX12 224 M_X12_readWeight := ⟨in_tb (in_t8 (List.mem_of_getElem? (i := 112) rfl)) rfl, im_X12_readWeight, se_X12_readWeight⟩
set_option maxRecDepth 10000 in
theorem lk_X12_231 : LkV RX12 231 M_X12_drops := ⟨in_tb (in_t8 (List.mem_of_getElem? (i := 135) rfl)) rfl, im_X12_drops, se_X12_drops⟩
set_option maxRecDepth 10000 in
theorem fl_X12_235 : FLk RX12 235 12 15 := ⟨⟨in_tb (in_t7 (List.mem_of_getElem? (i := 94) rfl)) rfl, by decide⟩, by decide⟩
set_option maxRecDepth 10000 in
theorem lk_X12_238 : LkV RX12 238 M_X12_emits := ⟨in_tb (in_t8 (List.mem_of_getElem? (i := 166) rfl)) rfl, im_X12_emits, se_X12_emits⟩
set_option maxRecDepth 10000 in
theorem lk_X12_249 : LkV RX12 249 M_X12_readPart := ⟨in_tb (in_t8 (List.mem_of_getElem? (i := 175) rfl)) rfl, im_X12_readPart, se_X12_readPart⟩
set_option maxRecDepth 10000 in
theorem lk_X12_252 : LkV RX12 252 M_X12_sign := ⟨in_tb (in_t8 (List.mem_of_getElem? (i := 161) rfl)) rfl, im_X12_sign, se_X12_sign⟩
set_option maxRecDepth 10000 in
theorem fl_X12_256 : FLk RX12 256 12 12 := ⟨⟨in_tb (in_t7 (List.mem_of_getElem? (i := 91) rfl)) rfl, by decide⟩, by decide⟩
set_option maxRecDepth 10000 in
theorem lk_X12_259 : LkV RX12 259 M_X12_readCond := ⟨in_tb (in_t8 (List.mem_of_getElem? (i := 149) rfl)) rfl, im_X12_readCond, se_X12_readCond⟩
set_option maxRecDepth 10000 in
theorem lk_X12_264 : LkV RX12 264 M_X12_passes := ⟨in_tb (in_t8 (List.mem_of_getElem? (i := 145) rfl)) rfl, im_X12_passes, se_X12_passes⟩
set_option maxRecDepth 10000 in
theorem lk_X12_267 : LkV RX12 267 M_X12_readAtom := ⟨in_tb (in_t8 (List.mem_of_getElem? (i := 157) rfl)) rfl, im_X12_readAtom, se_X12_readAtom⟩
set_option maxRecDepth 10000 in
theorem lk_X12_271 : LkV RX12 271 M_X12_readSum := ⟨in_tb (in_t8 (List.mem_of_getElem? (i := 171) rfl)) rfl, im_X12_readSum, se_X12_readSum⟩
set_option maxRecDepth 10000 in
theorem lk_X12_276 : LkV RX12 276 M_X12_readAllOf := ⟨in_tb (in_t8 (List.mem_of_getElem? (i := 153) rfl)) rfl, im_X12_readAllOf, se_X12_readAllOf⟩
set_option maxRecDepth 10000 in
theorem lk_X12_285 : LkV RX12 285 M_X12_readValleyLine := ⟨in_tb (in_t8 (List.mem_of_getElem? (i := 45) rfl)) rfl, im_X12_readValleyLine, se_X12_readValleyLine⟩
set_option maxRecDepth 10000 in
theorem lk_X12_288 : LkV RX12 288 M_X12_readLawLine := ⟨in_tb (in_t8 (List.mem_of_getElem? (i := 139) rfl)) rfl, im_X12_readLawLine, se_X12_readLawLine⟩
set_option maxRecDepth 10000 in
theorem lk_X12_291 : LkV RX12 291 M_X12_uses := ⟨in_tb (in_t8 (List.mem_of_getElem? (i := 25) rfl)) rfl, im_X12_uses, se_X12_uses⟩
set_option maxRecDepth 10000 in
theorem lk_X12_294 : LkV RX12 294 M_X12_readLine := ⟨in_tb (in_t8 (List.mem_of_getElem? (i := 37) rfl)) rfl, im_X12_readLine, se_X12_readLine⟩
set_option maxRecDepth 10000 in
theorem lk_X12_298 : LkV RX12 298 M_X12_readAll := ⟨in_tb (in_t8 (List.mem_of_getElem? (i := 21) rfl)) rfl, im_X12_readAll, se_X12_readAll⟩
set_option maxRecDepth 10000 in
theorem lk_X12_302 : LkV RX12 302 M_X12_throwsIf := ⟨in_tb (in_t8 (List.mem_of_getElem? (i := 185) rfl)) rfl, im_X12_throwsIf, se_X12_throwsIf⟩
set_option maxRecDepth 10000 in
theorem fl_X12_305 : FLk RX12 305 12 16 := ⟨⟨in_tb (in_t7 (List.mem_of_getElem? (i := 95) rfl)) rfl, by decide⟩, by decide⟩
set_option maxRecDepth 10000 in
theorem fl_X12_308 : FLk RX12 308 12 17 := ⟨⟨in_tb (in_t7 (List.mem_of_getElem? (i := 96) rfl)) rfl, by decide⟩, by decide⟩
set_option maxRecDepth 10000 in
theorem lk_X12_311 : LkV RX12 311 M_X12_lefts := ⟨in_tb (in_t9 (List.mem_of_getElem? (i := 20) rfl)) rfl, im_X12_lefts, se_X12_lefts⟩
set_option maxRecDepth 10000 in
theorem lk_X12_314 : LkV RX12 314 M_X12_factOf := ⟨in_tb (in_t9 (List.mem_of_getElem? (i := 48) rfl)) rfl, im_X12_factOf, se_X12_factOf⟩
set_option maxRecDepth 10000 in
theorem lk_X12_318 : LkV RX12 318 M_X12_holdsLine := ⟨in_tb (in_t9 (List.mem_of_getElem? (i := 44) rfl)) rfl, im_X12_holdsLine, se_X12_holdsLine⟩
set_option maxRecDepth 10000 in
theorem lk_X12_322 : LkV RX12 322 M_X12_rights := ⟨in_tb (in_t9 (List.mem_of_getElem? (i := 24) rfl)) rfl, im_X12_rights, se_X12_rights⟩
set_option maxRecDepth 10000 in
theorem lk_X12_325 : LkS RX12 325 M_X12_has := ⟨in_tb (in_t9 (List.mem_of_getElem? (i := 28) rfl)) rfl, sm_X12_has⟩
set_option maxRecDepth 10000 in
theorem lk_X12_328 : LkS RX12 328 M_X12_part := ⟨in_tb (in_t9 (List.mem_of_getElem? (i := 31) rfl)) rfl, sm_X12_part⟩
set_option maxRecDepth 10000 in
theorem lk_X12_332 : LkV RX12 332 M_X12_isBarred := ⟨in_tb (in_t9 (List.mem_of_getElem? (i := 40) rfl)) rfl, im_X12_isBarred, se_X12_isBarred⟩
set_option maxRecDepth 10000 in
theorem lk_X12_335 : LkS RX12 335 M_X12_join := ⟨in_tb (in_t9 (List.mem_of_getElem? (i := 76) rfl)) rfl, sm_X12_join⟩
set_option maxRecDepth 10000 in
theorem lk_X12_339 : LkV RX12 339 M_X12_isFit := ⟨in_tb (in_t9 (List.mem_of_getElem? (i := 16) rfl)) rfl, im_X12_isFit, se_X12_isFit⟩
set_option maxRecDepth 10000 in
theorem fl_X12_343 : FLk RX12 343 12 19 := ⟨⟨in_tb (in_t7 (List.mem_of_getElem? (i := 98) rfl)) rfl, by decide⟩, by decide⟩
set_option maxRecDepth 10000 in
theorem fl_X12_346 : FLk RX12 346 12 20 := ⟨⟨in_tb (in_t7 (List.mem_of_getElem? (i := 99) rfl)) rfl, by decide⟩, by decide⟩
set_option maxRecDepth 10000 in
theorem lk_X12_349 : LkV RX12 349 M_X12_leastRule := ⟨in_tb (in_t9 (List.mem_of_getElem? (i := 99) rfl)) rfl, im_X12_leastRule, se_X12_leastRule⟩
set_option maxRecDepth 10000 in
theorem lk_X12_352 : LkV RX12 352 M_X12_allAtOnce := ⟨in_tb (in_t9 (List.mem_of_getElem? (i := 95) rfl)) rfl, im_X12_allAtOnce, se_X12_allAtOnce⟩
set_option maxRecDepth 10000 in
theorem lk_X12_356 : LkV RX12 356 M_X12_finds := ⟨in_tb (in_t9 (List.mem_of_getElem? (i := 103) rfl)) rfl, im_X12_finds, se_X12_finds⟩
set_option maxRecDepth 10000 in
theorem lk_X12_360 : LkV RX12 360 M_X12_used := ⟨in_tb (in_t9 (List.mem_of_getElem? (i := 72) rfl)) rfl, im_X12_used, se_X12_used⟩
set_option maxRecDepth 10000 in
theorem fl_X12_363 : FLk RX12 363 12 21 := ⟨⟨in_tb (in_t7 (List.mem_of_getElem? (i := 100) rfl)) rfl, by decide⟩, by decide⟩
set_option maxRecDepth 10000 in
theorem fl_X12_367 : FLk RX12 367 12 22 := ⟨⟨in_tb (in_t7 (List.mem_of_getElem? (i := 101) rfl)) rfl, by decide⟩, by decide⟩
set_option maxRecDepth 10000 in
theorem lk_X12_370 : LkV RX12 370 M_X12_next := ⟨in_tb (in_t9 (List.mem_of_getElem? (i := 91) rfl)) rfl, im_X12_next, se_X12_next⟩
set_option maxRecDepth 10000 in
theorem lk_X12_373 : LkV RX12 373 M_X12_noRule := ⟨in_tb (in_t8 (List.mem_of_getElem? (i := 197) rfl)) rfl, im_X12_noRule, se_X12_noRule⟩
set_option maxRecDepth 10000 in
theorem lk_X12_376 : LkV RX12 376 M_X12_noField := ⟨in_tb (in_t8 (List.mem_of_getElem? (i := 216) rfl)) rfl, im_X12_noField, se_X12_noField⟩
set_option maxRecDepth 10000 in
theorem lk_X12_379 : LkV RX12 379 M_X12_meadow := ⟨in_tb (in_t8 (List.mem_of_getElem? (i := 220) rfl)) rfl, im_X12_meadow, se_X12_meadow⟩
set_option maxRecDepth 10000 in
theorem lk_X12_382 : LkS RX12 382 M_X12_isCode := ⟨in_tb (in_t8 (List.mem_of_getElem? (i := 237) rfl)) rfl, sm_X12_isCode⟩
set_option maxRecDepth 10000 in
theorem lk_X12_386 : LkV RX12 386 M_X12_asTold := ⟨in_tb (in_t9 (List.mem_of_getElem? (i := 12) rfl)) rfl, im_X12_asTold, se_X12_asTold⟩
set_option maxRecDepth 10000 in
theorem fl_X12_389 : FLk RX12 389 12 24 := ⟨⟨in_tb (in_t7 (List.mem_of_getElem? (i := 103) rfl)) rfl, by decide⟩, by decide⟩
set_option maxRecDepth 10000 in
theorem lk_X12_392 : LkV RX12 392 M_X12_makes := ⟨in_tb (in_t9 (List.mem_of_getElem? (i := 68) rfl)) rfl, im_X12_makes, se_X12_makes⟩
set_option maxRecDepth 10000 in
theorem lk_X12_395 : LkV RX12 395 M_X12_keepsMakers := ⟨in_tb (in_t9 (List.mem_of_getElem? (i := 64) rfl)) rfl, im_X12_keepsMakers, se_X12_keepsMakers⟩
set_option maxRecDepth 10000 in
theorem lk_X12_399 : LkV RX12 399 M_X12_comes := ⟨in_tb (in_t9 (List.mem_of_getElem? (i := 79) rfl)) rfl, im_X12_comes, se_X12_comes⟩
set_option maxRecDepth 10000 in
theorem lk_X12_402 : LkV RX12 402 M_X12_goesAll := ⟨in_tb (in_t9 (List.mem_of_getElem? (i := 107) rfl)) rfl, im_X12_goesAll, se_X12_goesAll⟩
set_option maxRecDepth 10000 in
theorem lk_X12_405 : LkV RX12 405 M_X12_goes := ⟨in_tb (in_t9 (List.mem_of_getElem? (i := 60) rfl)) rfl, im_X12_goes, se_X12_goes⟩
set_option maxRecDepth 10000 in
theorem lk_X12_408 : LkV RX12 408 M_X12_remembers := ⟨in_tb (in_t9 (List.mem_of_getElem? (i := 56) rfl)) rfl, im_X12_remembers, se_X12_remembers⟩
set_option maxRecDepth 10000 in
theorem lk_X12_411 : LkV RX12 411 M_X12_stepsOn := ⟨in_tb (in_t9 (List.mem_of_getElem? (i := 87) rfl)) rfl, im_X12_stepsOn, se_X12_stepsOn⟩
set_option maxRecDepth 10000 in
theorem cn_X12_414 : Cond.constant RX12 414 (1103515245) ∈ tbw := in_tb (in_t9 (List.mem_of_getElem? (i := 135) rfl)) rfl
set_option maxRecDepth 10000 in
theorem lk_X12_415 : LkV RX12 415 M_X12_draw := ⟨in_tb (in_t9 (List.mem_of_getElem? (i := 131) rfl)) rfl, im_X12_draw, se_X12_draw⟩
set_option maxRecDepth 10000 in
theorem lk_X12_418 : LkV RX12 418 M_X12_choices := ⟨in_tb (in_t9 (List.mem_of_getElem? (i := 136) rfl)) rfl, im_X12_choices, se_X12_choices⟩
set_option maxRecDepth 10000 in
theorem lk_X12_421 : LkV RX12 421 M_X12_year := ⟨in_tb (in_t9 (List.mem_of_getElem? (i := 127) rfl)) rfl, im_X12_year, se_X12_year⟩
set_option maxRecDepth 10000 in
theorem lk_X12_423 : LkV RX12 423 M_X12_isSettling := ⟨in_tb (in_t9 (List.mem_of_getElem? (i := 144) rfl)) rfl, im_X12_isSettling, se_X12_isSettling⟩
set_option maxRecDepth 10000 in
theorem cn_X12_426 : Cond.constantLong RX12 426 (2654435761) ∈ tbw := in_tb (in_t9 (List.mem_of_getElem? (i := 176) rfl)) rfl
set_option maxRecDepth 10000 in
theorem lk_X12_428 : LkV RX12 428 M_X12_slotOf := ⟨in_tb (in_t9 (List.mem_of_getElem? (i := 172) rfl)) rfl, im_X12_slotOf, se_X12_slotOf⟩
set_option maxRecDepth 10000 in
theorem fl_X12_431 : FLk RX12 431 12 29 := ⟨⟨in_tb (in_t7 (List.mem_of_getElem? (i := 108) rfl)) rfl, by decide⟩, by decide⟩
set_option maxRecDepth 10000 in
theorem lk_X12_434 : LkV RX12 434 M_X12_isMet := ⟨in_tb (in_t9 (List.mem_of_getElem? (i := 168) rfl)) rfl, im_X12_isMet, se_X12_isMet⟩
set_option maxRecDepth 10000 in
theorem lk_X12_437 : LkV RX12 437 M_X12_beginsAt := ⟨in_tb (in_t9 (List.mem_of_getElem? (i := 164) rfl)) rfl, im_X12_beginsAt, se_X12_beginsAt⟩
set_option maxRecDepth 10000 in
theorem lk_X12_441 : LkV RX12 441 M_X12_spreads := ⟨in_tb (in_t9 (List.mem_of_getElem? (i := 177) rfl)) rfl, im_X12_spreads, se_X12_spreads⟩
set_option maxRecDepth 10000 in
theorem lk_X12_444 : LkV RX12 444 M_X12_searches := ⟨in_tb (in_t9 (List.mem_of_getElem? (i := 160) rfl)) rfl, im_X12_searches, se_X12_searches⟩
set_option maxRecDepth 10000 in
theorem cn_X12_447 : Cond.constantLong RX12 447 (-3) ∈ tbw := in_tb (in_t9 (List.mem_of_getElem? (i := 181) rfl)) rfl
set_option maxRecDepth 10000 in
theorem lk_X12_449 : LkS RX12 449 M_J9_max_7cf53 := ⟨in_tb (in_t9 (List.mem_of_getElem? (i := 182) rfl)) rfl, sm_J9_max_7cf53⟩
set_option maxRecDepth 10000 in
theorem lk_X12_454 : LkV RX12 454 M_X12_isSettled := ⟨in_tb (in_t9 (List.mem_of_getElem? (i := 183) rfl)) rfl, im_X12_isSettled, se_X12_isSettled⟩
set_option maxRecDepth 10000 in
theorem lk_X12_457 : LkS RX12 457 M_J9_min_f86c9 := ⟨in_tb (in_t9 (List.mem_of_getElem? (i := 187) rfl)) rfl, sm_J9_min_f86c9⟩
set_option maxRecDepth 10000 in
theorem lk_X12_460 : LkV RX12 460 M_X12_indexOf := ⟨in_tb (in_t9 (List.mem_of_getElem? (i := 192) rfl)) rfl, im_X12_indexOf, se_X12_indexOf⟩
set_option maxRecDepth 10000 in
theorem fl_X12_463 : FLk RX12 463 12 33 := ⟨⟨in_tb (in_t7 (List.mem_of_getElem? (i := 112) rfl)) rfl, by decide⟩, by decide⟩
set_option maxRecDepth 10000 in
theorem fl_X12_466 : FLk RX12 466 12 34 := ⟨⟨in_tb (in_t7 (List.mem_of_getElem? (i := 113) rfl)) rfl, by decide⟩, by decide⟩
set_option maxRecDepth 10000 in
theorem fl_X12_469 : FLk RX12 469 12 40 := ⟨⟨in_tb (in_t7 (List.mem_of_getElem? (i := 119) rfl)) rfl, by decide⟩, by decide⟩
set_option maxRecDepth 10000 in
theorem fl_X12_472 : FLk RX12 472 12 38 := ⟨⟨in_tb (in_t7 (List.mem_of_getElem? (i := 117) rfl)) rfl, by decide⟩, by decide⟩
set_option maxRecDepth 10000 in
theorem fl_X12_475 : FLk RX12 475 12 39 := ⟨⟨in_tb (in_t7 (List.mem_of_getElem? (i := 118) rfl)) rfl, by decide⟩, by decide⟩
set_option maxRecDepth 10000 in
theorem fl_X12_478 : FLk RX12 478 12 35 := ⟨⟨in_tb (in_t7 (List.mem_of_getElem? (i := 114) rfl)) rfl, by decide⟩, by decide⟩
set_option maxRecDepth 10000 in
theorem lk_X12_481 : LkV RX12 481 M_X12_settleAlike := ⟨in_tb (in_t9 (List.mem_of_getElem? (i := 217) rfl)) rfl, im_X12_settleAlike, se_X12_settleAlike⟩
set_option maxRecDepth 10000 in
theorem fl_X12_484 : FLk RX12 484 12 36 := ⟨⟨in_tb (in_t7 (List.mem_of_getElem? (i := 115) rfl)) rfl, by decide⟩, by decide⟩
set_option maxRecDepth 10000 in
theorem fl_X12_487 : FLk RX12 487 12 32 := ⟨⟨in_tb (in_t7 (List.mem_of_getElem? (i := 111) rfl)) rfl, by decide⟩, by decide⟩
set_option maxRecDepth 10000 in
theorem fl_X12_490 : FLk RX12 490 12 37 := ⟨⟨in_tb (in_t7 (List.mem_of_getElem? (i := 116) rfl)) rfl, by decide⟩, by decide⟩
set_option maxRecDepth 10000 in
theorem lk_X12_493 : LkV RX12 493 M_X12_counts := ⟨in_tb (in_t9 (List.mem_of_getElem? (i := 213) rfl)) rfl, im_X12_counts, se_X12_counts⟩
set_option maxRecDepth 10000 in
theorem lk_X12_496 : LkS RX12 496 M_J9_min_7cf53 := ⟨in_tb (in_t9 (List.mem_of_getElem? (i := 208) rfl)) rfl, sm_J9_min_7cf53⟩
set_option maxRecDepth 10000 in
theorem lk_X12_498 : LkV RX12 498 M_X12_overlap := ⟨in_tb (in_t9 (List.mem_of_getElem? (i := 209) rfl)) rfl, im_X12_overlap, se_X12_overlap⟩
set_option maxRecDepth 10000 in
theorem lk_X12_501 : LkV RX12 501 M_X12_within := ⟨in_tb (in_t9 (List.mem_of_getElem? (i := 221) rfl)) rfl, im_X12_within, se_X12_within⟩
set_option maxRecDepth 10000 in
theorem lk_X12_504 : LkV RX12 504 M_X12_looksOver := ⟨in_tb (in_t9 (List.mem_of_getElem? (i := 204) rfl)) rfl, im_X12_looksOver, se_X12_looksOver⟩
set_option maxRecDepth 10000 in
theorem lk_X12_507 : LkS RX12 507 M_J9_max_f86c9 := ⟨in_tb (in_t9 (List.mem_of_getElem? (i := 229) rfl)) rfl, sm_J9_max_f86c9⟩
set_option maxRecDepth 10000 in
theorem lk_X12_509 : LkS RX12 509 M_X12_beastsOf := ⟨in_tb (in_t9 (List.mem_of_getElem? (i := 238) rfl)) rfl, sm_X12_beastsOf⟩
set_option maxRecDepth 10000 in
theorem fl_X12_512 : FLk RX12 512 12 43 := ⟨⟨in_tb (in_t7 (List.mem_of_getElem? (i := 122) rfl)) rfl, by decide⟩, by decide⟩
set_option maxRecDepth 10000 in
theorem lk_X12_515 : LkV RX12 515 M_X12_weightOf := ⟨in_tb (in_t10 (List.mem_of_getElem? (i := 14) rfl)) rfl, im_X12_weightOf, se_X12_weightOf⟩
set_option maxRecDepth 10000 in
theorem lk_X12_518 : LkV RX12 518 M_X12_weighs := ⟨in_tb (in_t10 (List.mem_of_getElem? (i := 6) rfl)) rfl, im_X12_weighs, se_X12_weighs⟩
set_option maxRecDepth 10000 in
theorem lk_X12_521 : LkV RX12 521 M_X12_isNever := ⟨in_tb (in_t10 (List.mem_of_getElem? (i := 10) rfl)) rfl, im_X12_isNever, se_X12_isNever⟩
set_option maxRecDepth 10000 in
theorem lk_X12_525 : LkV RX12 525 M_X12_nextWeights := ⟨in_tb (in_t10 (List.mem_of_getElem? (i := 18) rfl)) rfl, im_X12_nextWeights, se_X12_nextWeights⟩
set_option maxRecDepth 10000 in
theorem lk_X12_528 : LkV RX12 528 M_X12_inRules := ⟨in_tb (in_t9 (List.mem_of_getElem? (i := 234) rfl)) rfl, im_X12_inRules, se_X12_inRules⟩
set_option maxRecDepth 10000 in
theorem lk_X12_532 : LkS RX12 532 M_J6_bitCount_0f7a4 := ⟨in_tb (in_t10 (List.mem_of_getElem? (i := 1) rfl)) rfl, sm_J6_bitCount_0f7a4⟩
set_option maxRecDepth 10000 in
theorem lk_X12_537 : LkV RX12 537 M_X12_neverBy := ⟨in_tb (in_t10 (List.mem_of_getElem? (i := 2) rfl)) rfl, im_X12_neverBy, se_X12_neverBy⟩
set_option maxRecDepth 10000 in
theorem lk_X12_541 : LkV RX12 541 M_X12_allFall := ⟨in_tb (in_t10 (List.mem_of_getElem? (i := 26) rfl)) rfl, im_X12_allFall, se_X12_allFall⟩
set_option maxRecDepth 10000 in
theorem lk_X12_544 : LkV RX12 544 M_X12_lightOf := ⟨in_tb (in_t10 (List.mem_of_getElem? (i := 34) rfl)) rfl, im_X12_lightOf, se_X12_lightOf⟩
set_option maxRecDepth 10000 in
theorem lk_X12_547 : LkS RX12 547 M_X12_row := ⟨in_tb (in_t10 (List.mem_of_getElem? (i := 54) rfl)) rfl, sm_X12_row⟩
set_option maxRecDepth 10000 in
theorem lk_X12_550 : LkV RX12 550 M_X12_becomesJust := ⟨in_tb (in_t10 (List.mem_of_getElem? (i := 57) rfl)) rfl, im_X12_becomesJust, se_X12_becomesJust⟩
set_option maxRecDepth 10000 in
theorem lk_X12_554 : LkV RX12 554 M_X12_sums := ⟨in_tb (in_t10 (List.mem_of_getElem? (i := 50) rfl)) rfl, im_X12_sums, se_X12_sums⟩
set_option maxRecDepth 10000 in
theorem lk_X12_557 : LkV RX12 557 M_X12_sortings := ⟨in_tb (in_t10 (List.mem_of_getElem? (i := 61) rfl)) rfl, im_X12_sortings, se_X12_sortings⟩
set_option maxRecDepth 10000 in
theorem lk_X12_560 : LkV RX12 560 M_X12_copies := ⟨in_tb (in_t10 (List.mem_of_getElem? (i := 65) rfl)) rfl, im_X12_copies, se_X12_copies⟩
set_option maxRecDepth 10000 in
theorem lk_X12_563 : LkV RX12 563 M_X12_halves := ⟨in_tb (in_t10 (List.mem_of_getElem? (i := 69) rfl)) rfl, im_X12_halves, se_X12_halves⟩
set_option maxRecDepth 10000 in
theorem lk_X12_566 : LkV RX12 566 M_X12_allSettle := ⟨in_tb (in_t10 (List.mem_of_getElem? (i := 77) rfl)) rfl, im_X12_allSettle, se_X12_allSettle⟩
set_option maxRecDepth 10000 in
theorem lk_X12_569 : LkS RX12 569 M_X12_explains := ⟨in_tb (in_t10 (List.mem_of_getElem? (i := 93) rfl)) rfl, sm_X12_explains⟩
set_option maxRecDepth 10000 in
theorem lk_X12_573 : LkV RX12 573 M_X12_explainsAt := ⟨in_tb (in_t10 (List.mem_of_getElem? (i := 89) rfl)) rfl, im_X12_explainsAt, se_X12_explainsAt⟩
set_option maxRecDepth 10000 in
theorem lk_X12_576 : LkV RX12 576 M_X12_explainedBy := ⟨in_tb (in_t10 (List.mem_of_getElem? (i := 85) rfl)) rfl, im_X12_explainedBy, se_X12_explainedBy⟩
set_option maxRecDepth 10000 in
theorem fl_X12_579 : FLk RX12 579 12 47 := ⟨⟨in_tb (in_t7 (List.mem_of_getElem? (i := 126) rfl)) rfl, by decide⟩, by decide⟩
set_option maxRecDepth 10000 in
theorem lk_X12_582 : LkV RX12 582 M_X12_guess := ⟨in_tb (in_t10 (List.mem_of_getElem? (i := 104) rfl)) rfl, im_X12_guess, se_X12_guess⟩
set_option maxRecDepth 10000 in
theorem lk_X12_585 : LkV RX12 585 M_X12_isAhead := ⟨in_tb (in_t10 (List.mem_of_getElem? (i := 108) rfl)) rfl, im_X12_isAhead, se_X12_isAhead⟩
set_option maxRecDepth 10000 in
theorem fl_X12_588 : FLk RX12 588 12 50 := ⟨⟨in_tb (in_t7 (List.mem_of_getElem? (i := 129) rfl)) rfl, by decide⟩, by decide⟩
set_option maxRecDepth 10000 in
theorem lk_X12_591 : LkV RX12 591 M_X12_bestOf := ⟨in_tb (in_t10 (List.mem_of_getElem? (i := 120) rfl)) rfl, im_X12_bestOf, se_X12_bestOf⟩
set_option maxRecDepth 10000 in
theorem lk_X12_594 : LkV RX12 594 M_X12_plays := ⟨in_tb (in_t10 (List.mem_of_getElem? (i := 116) rfl)) rfl, im_X12_plays, se_X12_plays⟩
set_option maxRecDepth 10000 in
theorem cn_J6_264 : Cond.constant RJ6 264 (65536) ∈ tbw := in_tb (in_t8 (List.mem_of_getElem? (i := 132) rfl)) rfl
set_option maxRecDepth 10000 in
theorem cn_J6_265 : Cond.constant RJ6 265 (1431655765) ∈ tbw := in_tb (in_t3 (List.mem_of_getElem? (i := 93) rfl)) rfl
set_option maxRecDepth 10000 in
theorem cn_J6_266 : Cond.constant RJ6 266 (858993459) ∈ tbw := in_tb (in_t3 (List.mem_of_getElem? (i := 94) rfl)) rfl
set_option maxRecDepth 10000 in
theorem cn_J6_267 : Cond.constant RJ6 267 (252645135) ∈ tbw := in_tb (in_t3 (List.mem_of_getElem? (i := 95) rfl)) rfl
set_option maxRecDepth 10000 in
theorem lk_J13_308 : LkS RJ13 308 M_J6_numberOfLeadingZeros_0f7a4 := ⟨in_tb (in_t8 (List.mem_of_getElem? (i := 129) rfl)) rfl, sm_J6_numberOfLeadingZeros_0f7a4⟩
set_option maxRecDepth 10000 in
theorem lk_J0_335 : LkV RJ0 335 M_J0_coder_7d493 := ⟨in_tb (in_t3 (List.mem_of_getElem? (i := 218) rfl)) rfl, im_J0_coder_7d493, se_J0_coder_7d493⟩
set_option maxRecDepth 10000 in
theorem lk_J0_492 : LkV RJ0 492 M_J0_isLatin1_aae02 := ⟨in_tb (in_t3 (List.mem_of_getElem? (i := 228) rfl)) rfl, im_J0_isLatin1_aae02, se_J0_isLatin1_aae02⟩
set_option maxRecDepth 10000 in
theorem lk_J0_495 : LkS RJ0 495 M_J1_charAt_3b067 := ⟨in_tb (in_t3 (List.mem_of_getElem? (i := 232) rfl)) rfl, sm_J1_charAt_3b067⟩
set_option maxRecDepth 10000 in
theorem lk_J0_498 : LkS RJ0 498 M_J2_charAt_3b067 := ⟨in_tb (in_t4 (List.mem_of_getElem? (i := 3) rfl)) rfl, sm_J2_charAt_3b067⟩
set_option maxRecDepth 10000 in
theorem lk_J0_1059 : LkS RJ0 1059 M_J3_checkIndex_8e157 := ⟨in_tb (in_t4 (List.mem_of_getElem? (i := 0) rfl)) rfl, sm_J3_checkIndex_8e157⟩
set_option maxRecDepth 10000 in
theorem lk_J1_9 : LkS RJ1 9 M_J0_checkIndex_df160 := ⟨in_tb (in_t3 (List.mem_of_getElem? (i := 235) rfl)) rfl, sm_J0_checkIndex_df160⟩
set_option maxRecDepth 10000 in
theorem lk_J2_48 : LkS RJ2 48 M_J2_length_9d52b := ⟨in_tb (in_t4 (List.mem_of_getElem? (i := 9) rfl)) rfl, sm_J2_length_9d52b⟩
set_option maxRecDepth 10000 in
theorem lk_J2_67 : LkS RJ2 67 M_J2_checkIndex_2214a := ⟨in_tb (in_t4 (List.mem_of_getElem? (i := 6) rfl)) rfl, sm_J2_checkIndex_2214a⟩
set_option maxRecDepth 10000 in
theorem lk_J2_71 : LkS RJ2 71 M_J2_getChar_3b067 := ⟨in_tb (in_t4 (List.mem_of_getElem? (i := 13) rfl)) rfl, sm_J2_getChar_3b067⟩
set_option maxRecDepth 10000 in
theorem lk_J2_414 : LkS RJ2 414 M_J0_checkIndex_df160 := ⟨in_tb (in_t4 (List.mem_of_getElem? (i := 12) rfl)) rfl, sm_J0_checkIndex_df160⟩
set_option maxRecDepth 10000 in
theorem lk_L_7 : LkV RL 7 M_X11_valley := ⟨in_tb (in_t3 (List.mem_of_getElem? (i := 189) rfl)) rfl, im_X11_valley, se_X11_valley⟩
set_option maxRecDepth 10000 in
theorem lk_L_17 : LkV RL 17 M_X11_law := ⟨in_tb (in_t4 (List.mem_of_getElem? (i := 191) rfl)) rfl, im_X11_law, se_X11_law⟩
set_option maxRecDepth 10000 in
theorem lk_L_20 : LkV RL 20 M_X11_rule := ⟨in_tb (in_t5 (List.mem_of_getElem? (i := 4) rfl)) rfl, im_X11_rule, se_X11_rule⟩
set_option maxRecDepth 10000 in
theorem lk_L_26 : LkV RL 26 M_X11_field := ⟨in_tb (in_t5 (List.mem_of_getElem? (i := 30) rfl)) rfl, im_X11_field, se_X11_field⟩
set_option maxRecDepth 10000 in
theorem lk_L_30 : LkV RL 30 M_X11_seen := ⟨in_tb (in_t5 (List.mem_of_getElem? (i := 41) rfl)) rfl, im_X11_seen, se_X11_seen⟩
set_option maxRecDepth 10000 in
theorem lk_L_33 : LkV RL 33 M_X11_beast := ⟨in_tb (in_t5 (List.mem_of_getElem? (i := 52) rfl)) rfl, im_X11_beast, se_X11_beast⟩
set_option maxRecDepth 10000 in
theorem lk_L_37 : LkV RL 37 M_X11_steps := ⟨in_tb (in_t5 (List.mem_of_getElem? (i := 65) rfl)) rfl, im_X11_steps, se_X11_steps⟩
set_option maxRecDepth 10000 in
theorem lk_L_41 : LkV RL 41 M_X11_maker := ⟨in_tb (in_t5 (List.mem_of_getElem? (i := 73) rfl)) rfl, im_X11_maker, se_X11_maker⟩
set_option maxRecDepth 10000 in
theorem lk_L_47 : LkV RL 47 M_X11_fits := ⟨in_tb (in_t5 (List.mem_of_getElem? (i := 98) rfl)) rfl, im_X11_fits, se_X11_fits⟩
set_option maxRecDepth 10000 in
theorem lk_L_51 : LkV RL 51 M_X11_use := ⟨in_tb (in_t5 (List.mem_of_getElem? (i := 107) rfl)) rfl, im_X11_use, se_X11_use⟩
set_option maxRecDepth 10000 in
theorem lk_L_57 : LkV RL 57 M_X11_run := ⟨in_tb (in_t5 (List.mem_of_getElem? (i := 150) rfl)) rfl, im_X11_run, se_X11_run⟩
set_option maxRecDepth 10000 in
theorem lk_L_61 : LkV RL 61 M_X11_put := ⟨in_tb (in_t5 (List.mem_of_getElem? (i := 164) rfl)) rfl, im_X11_put, se_X11_put⟩
set_option maxRecDepth 10000 in
theorem lk_L_65 : LkV RL 65 M_X11_add := ⟨in_tb (in_t5 (List.mem_of_getElem? (i := 172) rfl)) rfl, im_X11_add, se_X11_add⟩
set_option maxRecDepth 10000 in
theorem lk_L_69 : LkV RL 69 M_X11_drop := ⟨in_tb (in_t5 (List.mem_of_getElem? (i := 184) rfl)) rfl, im_X11_drop, se_X11_drop⟩
set_option maxRecDepth 10000 in
theorem lk_L_72 : LkV RL 72 M_X11_years := ⟨in_tb (in_t5 (List.mem_of_getElem? (i := 192) rfl)) rfl, im_X11_years, se_X11_years⟩
set_option maxRecDepth 10000 in
theorem lk_L_75 : LkV RL 75 M_X11_settles := ⟨in_tb (in_t5 (List.mem_of_getElem? (i := 212) rfl)) rfl, im_X11_settles, se_X11_settles⟩
set_option maxRecDepth 10000 in
theorem lk_L_79 : LkV RL 79 M_X11_again := ⟨in_tb (in_t5 (List.mem_of_getElem? (i := 219) rfl)) rfl, im_X11_again, se_X11_again⟩
set_option maxRecDepth 10000 in
theorem lk_L_83 : LkV RL 83 M_X11_alike := ⟨in_tb (in_t6 (List.mem_of_getElem? (i := 9) rfl)) rfl, im_X11_alike, se_X11_alike⟩
set_option maxRecDepth 10000 in
theorem lk_L_87 : LkV RL 87 M_X11_becomes := ⟨in_tb (in_t6 (List.mem_of_getElem? (i := 16) rfl)) rfl, im_X11_becomes, se_X11_becomes⟩
set_option maxRecDepth 10000 in
theorem lk_L_91 : LkV RL 91 M_X11_fewest := ⟨in_tb (in_t6 (List.mem_of_getElem? (i := 64) rfl)) rfl, im_X11_fewest, se_X11_fewest⟩
set_option maxRecDepth 10000 in
theorem lk_L_94 : LkV RL 94 M_X11_meets := ⟨in_tb (in_t6 (List.mem_of_getElem? (i := 73) rfl)) rfl, im_X11_meets, se_X11_meets⟩
set_option maxRecDepth 10000 in
theorem lk_L_98 : LkV RL 98 M_X11_overlaps := ⟨in_tb (in_t6 (List.mem_of_getElem? (i := 80) rfl)) rfl, im_X11_overlaps, se_X11_overlaps⟩
set_option maxRecDepth 10000 in
theorem lk_L_101 : LkV RL 101 M_X11_complete := ⟨in_tb (in_t6 (List.mem_of_getElem? (i := 114) rfl)) rfl, im_X11_complete, se_X11_complete⟩
set_option maxRecDepth 10000 in
theorem lk_L_104 : LkV RL 104 M_X11_never := ⟨in_tb (in_t6 (List.mem_of_getElem? (i := 121) rfl)) rfl, im_X11_never, se_X11_never⟩
set_option maxRecDepth 10000 in
theorem lk_L_108 : LkV RL 108 M_X11_falls := ⟨in_tb (in_t6 (List.mem_of_getElem? (i := 177) rfl)) rfl, im_X11_falls, se_X11_falls⟩
set_option maxRecDepth 10000 in
theorem lk_L_111 : LkV RL 111 M_X11_light := ⟨in_tb (in_t6 (List.mem_of_getElem? (i := 188) rfl)) rfl, im_X11_light, se_X11_light⟩
set_option maxRecDepth 10000 in
theorem lk_L_115 : LkV RL 115 M_X11_loss := ⟨in_tb (in_t6 (List.mem_of_getElem? (i := 199) rfl)) rfl, im_X11_loss, se_X11_loss⟩
set_option maxRecDepth 10000 in
theorem lk_L_118 : LkV RL 118 M_X11_reckons := ⟨in_tb (in_t6 (List.mem_of_getElem? (i := 206) rfl)) rfl, im_X11_reckons, se_X11_reckons⟩
set_option maxRecDepth 10000 in
theorem lk_L_122 : LkV RL 122 M_X11_explained := ⟨in_tb (in_t6 (List.mem_of_getElem? (i := 230) rfl)) rfl, im_X11_explained, se_X11_explained⟩
set_option maxRecDepth 10000 in
theorem lk_L_125 : LkV RL 125 M_X11_guessed := ⟨in_tb (in_t6 (List.mem_of_getElem? (i := 238) rfl)) rfl, im_X11_guessed, se_X11_guessed⟩
set_option maxRecDepth 10000 in
theorem lk_L_128 : LkV RL 128 M_X11_drovers := ⟨in_tb (in_t7 (List.mem_of_getElem? (i := 25) rfl)) rfl, im_X11_drovers, se_X11_drovers⟩
set_option maxRecDepth 10000 in
theorem lk_L_131 : LkV RL 131 M_X11_best := ⟨in_tb (in_t7 (List.mem_of_getElem? (i := 49) rfl)) rfl, im_X11_best, se_X11_best⟩
set_option maxRecDepth 10000 in
theorem lk_L_134 : LkV RL 134 M_X11_sorts := ⟨in_tb (in_t7 (List.mem_of_getElem? (i := 56) rfl)) rfl, im_X11_sorts, se_X11_sorts⟩
set_option maxRecDepth 10000 in
theorem lk_L_137 : LkI RL 137 M_X11_init := ⟨in_tb (in_t1 (List.mem_of_getElem? (i := 34) rfl)) rfl, im_X11_init, rfl⟩
set_option maxRecDepth 10000 in
theorem lk_L_140 : LkI RL 140 M_X12_init := ⟨in_tb (in_t7 (List.mem_of_getElem? (i := 75) rfl)) rfl, im_X12_init, rfl⟩
set_option maxRecDepth 10000 in
theorem lk_L_141 : LkV RL 141 M_X11_feed := ⟨in_tb (in_t3 (List.mem_of_getElem? (i := 1) rfl)) rfl, im_X11_feed, se_X11_feed⟩
set_option maxRecDepth 10000 in
theorem lk_L_145 : LkV RL 145 M_X12_feed := ⟨in_tb (in_t8 (List.mem_of_getElem? (i := 5) rfl)) rfl, im_X12_feed, se_X12_feed⟩
set_option maxRecDepth 10000 in
theorem lk_L_146 : LkV RL 146 M_X11_end := ⟨in_tb (in_t3 (List.mem_of_getElem? (i := 9) rfl)) rfl, im_X11_end, se_X11_end⟩
set_option maxRecDepth 10000 in
theorem lk_L_150 : LkV RL 150 M_X12_end := ⟨in_tb (in_t8 (List.mem_of_getElem? (i := 9) rfl)) rfl, im_X12_end, se_X12_end⟩
set_option maxRecDepth 10000 in
theorem lk_L_151 : LkS RL 151 M_L_valley := ⟨in_tb (in_t3 (List.mem_of_getElem? (i := 184) rfl)) rfl, sm_L_valley⟩
set_option maxRecDepth 10000 in
theorem lk_L_156 : LkV RL 156 M_X12_valley := ⟨in_tb (in_t8 (List.mem_of_getElem? (i := 17) rfl)) rfl, im_X12_valley, se_X12_valley⟩
set_option maxRecDepth 10000 in
theorem lk_L_157 : LkV RL 157 M_X12_thrown := ⟨in_tb (in_t7 (List.mem_of_getElem? (i := 69) rfl)) rfl, im_X12_thrown, se_X12_thrown⟩
set_option maxRecDepth 10000 in
theorem lk_L_160 : LkS RL 160 M_L_law := ⟨in_tb (in_t4 (List.mem_of_getElem? (i := 188) rfl)) rfl, sm_L_law⟩
set_option maxRecDepth 10000 in
theorem lk_L_162 : LkV RL 162 M_X12_law := ⟨in_tb (in_t8 (List.mem_of_getElem? (i := 189) rfl)) rfl, im_X12_law, se_X12_law⟩
set_option maxRecDepth 10000 in
theorem lk_L_163 : LkV RL 163 M_X11_fault := ⟨in_tb (in_t3 (List.mem_of_getElem? (i := 13) rfl)) rfl, im_X11_fault, se_X11_fault⟩
set_option maxRecDepth 10000 in
theorem lk_L_166 : LkV RL 166 M_X12_fault := ⟨in_tb (in_t8 (List.mem_of_getElem? (i := 13) rfl)) rfl, im_X12_fault, se_X12_fault⟩
set_option maxRecDepth 10000 in
theorem lk_L_167 : LkS RL 167 M_L_rule := ⟨in_tb (in_t5 (List.mem_of_getElem? (i := 0) rfl)) rfl, sm_L_rule⟩
set_option maxRecDepth 10000 in
theorem lk_L_170 : LkV RL 170 M_X12_rule := ⟨in_tb (in_t8 (List.mem_of_getElem? (i := 193) rfl)) rfl, im_X12_rule, se_X12_rule⟩
set_option maxRecDepth 10000 in
theorem lk_L_171 : LkS RL 171 M_L_field := ⟨in_tb (in_t5 (List.mem_of_getElem? (i := 27) rfl)) rfl, sm_L_field⟩
set_option maxRecDepth 10000 in
theorem lk_L_174 : LkV RL 174 M_X12_field := ⟨in_tb (in_t8 (List.mem_of_getElem? (i := 212) rfl)) rfl, im_X12_field, se_X12_field⟩
set_option maxRecDepth 10000 in
theorem lk_L_175 : LkS RL 175 M_L_seen := ⟨in_tb (in_t5 (List.mem_of_getElem? (i := 38) rfl)) rfl, sm_L_seen⟩
set_option maxRecDepth 10000 in
theorem lk_L_177 : LkV RL 177 M_X12_seen := ⟨in_tb (in_t8 (List.mem_of_getElem? (i := 229) rfl)) rfl, im_X12_seen, se_X12_seen⟩
set_option maxRecDepth 10000 in
theorem cn_L_178 : Cond.constantLong RL 178 (4294967295) ∈ tbw := in_tb (in_t10 (List.mem_of_getElem? (i := 140) rfl)) rfl
set_option maxRecDepth 10000 in
theorem lk_L_180 : LkS RL 180 M_L_beast := ⟨in_tb (in_t5 (List.mem_of_getElem? (i := 49) rfl)) rfl, sm_L_beast⟩
set_option maxRecDepth 10000 in
theorem lk_L_183 : LkV RL 183 M_X12_beast := ⟨in_tb (in_t8 (List.mem_of_getElem? (i := 233) rfl)) rfl, im_X12_beast, se_X12_beast⟩
set_option maxRecDepth 10000 in
theorem lk_L_184 : LkS RL 184 M_L_steps := ⟨in_tb (in_t5 (List.mem_of_getElem? (i := 62) rfl)) rfl, sm_L_steps⟩
set_option maxRecDepth 10000 in
theorem lk_L_186 : LkV RL 186 M_X12_steps := ⟨in_tb (in_t9 (List.mem_of_getElem? (i := 0) rfl)) rfl, im_X12_steps, se_X12_steps⟩
set_option maxRecDepth 10000 in
theorem lk_L_187 : LkS RL 187 M_L_maker := ⟨in_tb (in_t5 (List.mem_of_getElem? (i := 69) rfl)) rfl, sm_L_maker⟩
set_option maxRecDepth 10000 in
theorem lk_L_190 : LkV RL 190 M_X12_maker := ⟨in_tb (in_t9 (List.mem_of_getElem? (i := 4) rfl)) rfl, im_X12_maker, se_X12_maker⟩
set_option maxRecDepth 10000 in
theorem lk_L_191 : LkS RL 191 M_L_fits := ⟨in_tb (in_t5 (List.mem_of_getElem? (i := 95) rfl)) rfl, sm_L_fits⟩
set_option maxRecDepth 10000 in
theorem lk_L_194 : LkV RL 194 M_X12_fits := ⟨in_tb (in_t9 (List.mem_of_getElem? (i := 8) rfl)) rfl, im_X12_fits, se_X12_fits⟩
set_option maxRecDepth 10000 in
theorem lk_L_195 : LkS RL 195 M_L_use := ⟨in_tb (in_t5 (List.mem_of_getElem? (i := 103) rfl)) rfl, sm_L_use⟩
set_option maxRecDepth 10000 in
theorem lk_L_197 : LkV RL 197 M_X12_use := ⟨in_tb (in_t9 (List.mem_of_getElem? (i := 52) rfl)) rfl, im_X12_use, se_X12_use⟩
set_option maxRecDepth 10000 in
theorem lk_L_198 : LkS RL 198 M_L_run := ⟨in_tb (in_t5 (List.mem_of_getElem? (i := 147) rfl)) rfl, sm_L_run⟩
set_option maxRecDepth 10000 in
theorem lk_L_201 : LkV RL 201 M_X12_run := ⟨in_tb (in_t9 (List.mem_of_getElem? (i := 83) rfl)) rfl, im_X12_run, se_X12_run⟩
set_option maxRecDepth 10000 in
theorem lk_L_202 : LkS RL 202 M_L_put := ⟨in_tb (in_t5 (List.mem_of_getElem? (i := 161) rfl)) rfl, sm_L_put⟩
set_option maxRecDepth 10000 in
theorem lk_L_205 : LkV RL 205 M_X12_put := ⟨in_tb (in_t9 (List.mem_of_getElem? (i := 111) rfl)) rfl, im_X12_put, se_X12_put⟩
set_option maxRecDepth 10000 in
theorem lk_L_206 : LkS RL 206 M_L_add := ⟨in_tb (in_t5 (List.mem_of_getElem? (i := 169) rfl)) rfl, sm_L_add⟩
set_option maxRecDepth 10000 in
theorem lk_L_209 : LkV RL 209 M_X12_add := ⟨in_tb (in_t9 (List.mem_of_getElem? (i := 115) rfl)) rfl, im_X12_add, se_X12_add⟩
set_option maxRecDepth 10000 in
theorem lk_L_210 : LkS RL 210 M_L_drop := ⟨in_tb (in_t5 (List.mem_of_getElem? (i := 181) rfl)) rfl, sm_L_drop⟩
set_option maxRecDepth 10000 in
theorem lk_L_212 : LkV RL 212 M_X12_drop := ⟨in_tb (in_t9 (List.mem_of_getElem? (i := 119) rfl)) rfl, im_X12_drop, se_X12_drop⟩
set_option maxRecDepth 10000 in
theorem lk_L_213 : LkS RL 213 M_L_years := ⟨in_tb (in_t5 (List.mem_of_getElem? (i := 189) rfl)) rfl, sm_L_years⟩
set_option maxRecDepth 10000 in
theorem lk_L_215 : LkV RL 215 M_X12_years := ⟨in_tb (in_t9 (List.mem_of_getElem? (i := 123) rfl)) rfl, im_X12_years, se_X12_years⟩
set_option maxRecDepth 10000 in
theorem lk_L_216 : LkS RL 216 M_L_settles := ⟨in_tb (in_t5 (List.mem_of_getElem? (i := 209) rfl)) rfl, sm_L_settles⟩
set_option maxRecDepth 10000 in
theorem lk_L_219 : LkV RL 219 M_X12_settles := ⟨in_tb (in_t9 (List.mem_of_getElem? (i := 140) rfl)) rfl, im_X12_settles, se_X12_settles⟩
set_option maxRecDepth 10000 in
theorem lk_L_220 : LkS RL 220 M_L_again := ⟨in_tb (in_t5 (List.mem_of_getElem? (i := 216) rfl)) rfl, sm_L_again⟩
set_option maxRecDepth 10000 in
theorem lk_L_223 : LkV RL 223 M_X12_again := ⟨in_tb (in_t9 (List.mem_of_getElem? (i := 148) rfl)) rfl, im_X12_again, se_X12_again⟩
set_option maxRecDepth 10000 in
theorem lk_L_224 : LkS RL 224 M_L_alike := ⟨in_tb (in_t6 (List.mem_of_getElem? (i := 6) rfl)) rfl, sm_L_alike⟩
set_option maxRecDepth 10000 in
theorem lk_L_226 : LkV RL 226 M_X12_alike := ⟨in_tb (in_t9 (List.mem_of_getElem? (i := 152) rfl)) rfl, im_X12_alike, se_X12_alike⟩
set_option maxRecDepth 10000 in
theorem lk_L_227 : LkS RL 227 M_L_becomes := ⟨in_tb (in_t6 (List.mem_of_getElem? (i := 13) rfl)) rfl, sm_L_becomes⟩
set_option maxRecDepth 10000 in
theorem lk_L_229 : LkV RL 229 M_X12_becomes := ⟨in_tb (in_t9 (List.mem_of_getElem? (i := 156) rfl)) rfl, im_X12_becomes, se_X12_becomes⟩
set_option maxRecDepth 10000 in
theorem lk_L_230 : LkS RL 230 M_L_fewest := ⟨in_tb (in_t6 (List.mem_of_getElem? (i := 61) rfl)) rfl, sm_L_fewest⟩
set_option maxRecDepth 10000 in
theorem lk_L_232 : LkV RL 232 M_X12_fewest := ⟨in_tb (in_t9 (List.mem_of_getElem? (i := 188) rfl)) rfl, im_X12_fewest, se_X12_fewest⟩
set_option maxRecDepth 10000 in
theorem lk_L_233 : LkS RL 233 M_L_meets := ⟨in_tb (in_t6 (List.mem_of_getElem? (i := 70) rfl)) rfl, sm_L_meets⟩
set_option maxRecDepth 10000 in
theorem lk_L_236 : LkV RL 236 M_X12_meets := ⟨in_tb (in_t9 (List.mem_of_getElem? (i := 196) rfl)) rfl, im_X12_meets, se_X12_meets⟩
set_option maxRecDepth 10000 in
theorem lk_L_237 : LkS RL 237 M_L_overlaps := ⟨in_tb (in_t6 (List.mem_of_getElem? (i := 77) rfl)) rfl, sm_L_overlaps⟩
set_option maxRecDepth 10000 in
theorem lk_L_239 : LkV RL 239 M_X12_overlaps := ⟨in_tb (in_t9 (List.mem_of_getElem? (i := 200) rfl)) rfl, im_X12_overlaps, se_X12_overlaps⟩
set_option maxRecDepth 10000 in
theorem lk_L_240 : LkS RL 240 M_L_complete := ⟨in_tb (in_t6 (List.mem_of_getElem? (i := 111) rfl)) rfl, sm_L_complete⟩
set_option maxRecDepth 10000 in
theorem lk_L_242 : LkV RL 242 M_X12_complete := ⟨in_tb (in_t9 (List.mem_of_getElem? (i := 225) rfl)) rfl, im_X12_complete, se_X12_complete⟩
set_option maxRecDepth 10000 in
theorem lk_L_243 : LkS RL 243 M_L_never := ⟨in_tb (in_t6 (List.mem_of_getElem? (i := 118) rfl)) rfl, sm_L_never⟩
set_option maxRecDepth 10000 in
theorem lk_L_246 : LkV RL 246 M_X12_never := ⟨in_tb (in_t9 (List.mem_of_getElem? (i := 230) rfl)) rfl, im_X12_never, se_X12_never⟩
set_option maxRecDepth 10000 in
theorem lk_L_247 : LkS RL 247 M_L_falls := ⟨in_tb (in_t6 (List.mem_of_getElem? (i := 174) rfl)) rfl, sm_L_falls⟩
set_option maxRecDepth 10000 in
theorem lk_L_249 : LkV RL 249 M_X12_falls := ⟨in_tb (in_t10 (List.mem_of_getElem? (i := 22) rfl)) rfl, im_X12_falls, se_X12_falls⟩
set_option maxRecDepth 10000 in
theorem lk_L_250 : LkS RL 250 M_L_light := ⟨in_tb (in_t6 (List.mem_of_getElem? (i := 185) rfl)) rfl, sm_L_light⟩
set_option maxRecDepth 10000 in
theorem lk_L_253 : LkV RL 253 M_X12_light := ⟨in_tb (in_t10 (List.mem_of_getElem? (i := 30) rfl)) rfl, im_X12_light, se_X12_light⟩
set_option maxRecDepth 10000 in
theorem lk_L_254 : LkS RL 254 M_L_loss := ⟨in_tb (in_t6 (List.mem_of_getElem? (i := 196) rfl)) rfl, sm_L_loss⟩
set_option maxRecDepth 10000 in
theorem lk_L_256 : LkV RL 256 M_X12_loss := ⟨in_tb (in_t10 (List.mem_of_getElem? (i := 38) rfl)) rfl, im_X12_loss, se_X12_loss⟩
set_option maxRecDepth 10000 in
theorem lk_L_257 : LkV RL 257 M_X11_endless := ⟨in_tb (in_t3 (List.mem_of_getElem? (i := 17) rfl)) rfl, im_X11_endless, se_X11_endless⟩
set_option maxRecDepth 10000 in
theorem lk_L_261 : LkV RL 261 M_X12_endless := ⟨in_tb (in_t10 (List.mem_of_getElem? (i := 42) rfl)) rfl, im_X12_endless, se_X12_endless⟩
set_option maxRecDepth 10000 in
theorem lk_L_262 : LkS RL 262 M_L_reckons := ⟨in_tb (in_t6 (List.mem_of_getElem? (i := 203) rfl)) rfl, sm_L_reckons⟩
set_option maxRecDepth 10000 in
theorem lk_L_264 : LkV RL 264 M_X12_reckons := ⟨in_tb (in_t10 (List.mem_of_getElem? (i := 46) rfl)) rfl, im_X12_reckons, se_X12_reckons⟩
set_option maxRecDepth 10000 in
theorem lk_L_265 : LkV RL 265 M_X11_dropped := ⟨in_tb (in_t3 (List.mem_of_getElem? (i := 83) rfl)) rfl, im_X11_dropped, se_X11_dropped⟩
set_option maxRecDepth 10000 in
theorem lk_L_268 : LkV RL 268 M_X12_dropped := ⟨in_tb (in_t10 (List.mem_of_getElem? (i := 73) rfl)) rfl, im_X12_dropped, se_X12_dropped⟩
set_option maxRecDepth 10000 in
theorem lk_L_269 : LkS RL 269 M_L_explained := ⟨in_tb (in_t6 (List.mem_of_getElem? (i := 227) rfl)) rfl, sm_L_explained⟩
set_option maxRecDepth 10000 in
theorem lk_L_271 : LkV RL 271 M_X12_explained := ⟨in_tb (in_t10 (List.mem_of_getElem? (i := 81) rfl)) rfl, im_X12_explained, se_X12_explained⟩
set_option maxRecDepth 10000 in
theorem lk_L_272 : LkV RL 272 M_X11_telling := ⟨in_tb (in_t3 (List.mem_of_getElem? (i := 100) rfl)) rfl, im_X11_telling, se_X11_telling⟩
set_option maxRecDepth 10000 in
theorem lk_L_275 : LkV RL 275 M_X12_telling := ⟨in_tb (in_t10 (List.mem_of_getElem? (i := 96) rfl)) rfl, im_X12_telling, se_X12_telling⟩
set_option maxRecDepth 10000 in
theorem lk_L_276 : LkS RL 276 M_L_guessed := ⟨in_tb (in_t6 (List.mem_of_getElem? (i := 235) rfl)) rfl, sm_L_guessed⟩
set_option maxRecDepth 10000 in
theorem lk_L_278 : LkV RL 278 M_X12_guessed := ⟨in_tb (in_t10 (List.mem_of_getElem? (i := 100) rfl)) rfl, im_X12_guessed, se_X12_guessed⟩
set_option maxRecDepth 10000 in
theorem lk_L_279 : LkS RL 279 M_L_drovers := ⟨in_tb (in_t7 (List.mem_of_getElem? (i := 22) rfl)) rfl, sm_L_drovers⟩
set_option maxRecDepth 10000 in
theorem lk_L_281 : LkV RL 281 M_X12_drovers := ⟨in_tb (in_t10 (List.mem_of_getElem? (i := 112) rfl)) rfl, im_X12_drovers, se_X12_drovers⟩
set_option maxRecDepth 10000 in
theorem lk_L_282 : LkS RL 282 M_L_best := ⟨in_tb (in_t7 (List.mem_of_getElem? (i := 46) rfl)) rfl, sm_L_best⟩
set_option maxRecDepth 10000 in
theorem lk_L_284 : LkV RL 284 M_X12_best := ⟨in_tb (in_t10 (List.mem_of_getElem? (i := 124) rfl)) rfl, im_X12_best, se_X12_best⟩
set_option maxRecDepth 10000 in
theorem lk_L_285 : LkS RL 285 M_L_sorts := ⟨in_tb (in_t7 (List.mem_of_getElem? (i := 53) rfl)) rfl, sm_L_sorts⟩
set_option maxRecDepth 10000 in
theorem lk_L_287 : LkV RL 287 M_X12_sorts := ⟨in_tb (in_t10 (List.mem_of_getElem? (i := 128) rfl)) rfl, im_X12_sorts, se_X12_sorts⟩
set_option maxRecDepth 10000 in
theorem lk_L_288 : LkV RL 288 M_X11_seed := ⟨in_tb (in_t3 (List.mem_of_getElem? (i := 125) rfl)) rfl, im_X11_seed, se_X11_seed⟩
set_option maxRecDepth 10000 in
theorem lk_L_291 : LkV RL 291 M_X12_seed := ⟨in_tb (in_t10 (List.mem_of_getElem? (i := 132) rfl)) rfl, im_X12_seed, se_X12_seed⟩
set_option maxRecDepth 10000 in
theorem lk_L_292 : LkV RL 292 M_X11_undo := ⟨in_tb (in_t3 (List.mem_of_getElem? (i := 129) rfl)) rfl, im_X11_undo, se_X11_undo⟩
set_option maxRecDepth 10000 in
theorem lk_L_296 : LkV RL 296 M_X12_undo := ⟨in_tb (in_t8 (List.mem_of_getElem? (i := 1) rfl)) rfl, im_X12_undo, se_X12_undo⟩
set_option maxRecDepth 10000 in
theorem lk_L_297 : LkV RL 297 M_X11_image := ⟨in_tb (in_t3 (List.mem_of_getElem? (i := 154) rfl)) rfl, im_X11_image, se_X11_image⟩
set_option maxRecDepth 10000 in
theorem lk_L_300 : LkV RL 300 M_X12_image := ⟨in_tb (in_t7 (List.mem_of_getElem? (i := 233) rfl)) rfl, im_X12_image, se_X12_image⟩
set_option maxRecDepth 10000 in
theorem lk_L_301 : LkV RL 301 M_X11_back := ⟨in_tb (in_t3 (List.mem_of_getElem? (i := 163) rfl)) rfl, im_X11_back, se_X11_back⟩
set_option maxRecDepth 10000 in
theorem lk_L_304 : LkV RL 304 M_X12_back := ⟨in_tb (in_t7 (List.mem_of_getElem? (i := 237) rfl)) rfl, im_X12_back, se_X12_back⟩
set_option maxRecDepth 10000 in
theorem lk_L_305 : LkV RL 305 M_X11_count := ⟨in_tb (in_t3 (List.mem_of_getElem? (i := 171) rfl)) rfl, im_X11_count, se_X11_count⟩
set_option maxRecDepth 10000 in
theorem lk_L_308 : LkV RL 308 M_X12_count := ⟨in_tb (in_t10 (List.mem_of_getElem? (i := 136) rfl)) rfl, im_X12_count, se_X12_count⟩
