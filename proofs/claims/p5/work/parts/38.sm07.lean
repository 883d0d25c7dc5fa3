-- by program (wip/p2): summaries, checked
-- HungerDays.told(I)I (r0, [MIN,MAX])
def sm_44_ef2370ea : sv_SM := (44, 1, 0, [.inr (some 0), .inl (0, 4294967295, 0, 0, 0)], [], [], [(some (.inl (0, 4294967295, 0, 0, 0)), [.inr (some 0), .inl (2147483648, 2147483651, 0, 0, 0)], []), (some (.inl (2147483647, 2147483647, 0, 0, 0)), [], [])])
set_option maxRecDepth 1000000 in
theorem sm_44_ef2370ea_ok : sv_valid sg sm_44_ef2370ea := sv_main (S := []) (na := 2) (cut := []) (cs := []) (sp := []) (N := 1) sv_nv (by decide +kernel)
-- HungerDays.twins(II)I (r0, [MIN,MAX], [MIN,MAX])
def sm_45_96cac3f7 : sv_SM := (45, 4, 0, [.inr (some 0), .inl (0, 4294967295, 0, 0, 0), .inl (0, 4294967295, 0, 0, 0)], [], [(40, 1, 3), (41, 0, 15), (42, 0, 15), (43, 0, 15), (44, 0, 15), (45, 0, 15), (46, 0, 15)], [(some (.inl (2147483647, 2147483647, 0, 0, 0)), [], []), (some (.inl (0, 4294967295, 0, 0, 0)), [.inr (some 0), .inl (2147483648, 2147483653, 0, 0, 0), .inl (2147483648, 2147483653, 0, 0, 0)], [])])
set_option maxRecDepth 1000000 in
theorem sm_45_96cac3f7_ok : sv_valid sg sm_45_96cac3f7 := sv_main (S := [sm_23_ef2370ea, sm_72_c5eb5496, sm_201_a5eabeff, sm_76_a0678127, sm_78_a0678127]) (na := 3) (cut := [36]) (cs := [(36, 1, 1, 7, [some (.inr (some 0)), some (.inl (2147483648, 2147483653, 0, 0, 0)), some (.inl (2147483648, 2147483653, 0, 0, 0)), some (.inl (2147483648, 2147483849, 0, 0, 0))], [], [])]) (sp := []) (N := 2) (sv_cv sm_23_ef2370ea_ok (sv_cv sm_72_c5eb5496_ok (sv_cv sm_201_a5eabeff_ok (sv_cv sm_76_a0678127_ok (sv_cv sm_78_a0678127_ok sv_nv))))) (by decide +kernel)
-- HungerDays$State.copyFrom(LHungerDays$State;)V (r33, r98)
def sm_72_433c0e5d : sv_SM := (72, 1, 0, [.inr (some 33), .inr (some 98)], [], [(33, 1, 3), (34, 0, 15), (35, 0, 15), (36, 0, 15), (37, 0, 15), (38, 0, 15), (39, 0, 15)], [(none, [], [])])
set_option maxRecDepth 1000000 in
theorem sm_72_433c0e5d_ok : sv_valid sg sm_72_433c0e5d := sv_main (S := []) (na := 2) (cut := []) (cs := []) (sp := []) (N := 1) sv_nv (by decide +kernel)
-- HungerDays$State.copyFrom(LHungerDays$State;)V (r33, r91)
def sm_72_387130d8 : sv_SM := (72, 1, 0, [.inr (some 33), .inr (some 91)], [], [(33, 1, 3), (34, 0, 15), (35, 0, 15), (36, 0, 15), (37, 0, 15), (38, 0, 15), (39, 0, 15)], [(none, [], [])])
set_option maxRecDepth 1000000 in
theorem sm_72_387130d8_ok : sv_valid sg sm_72_387130d8 := sv_main (S := []) (na := 2) (cut := []) (cs := []) (sp := []) (N := 1) sv_nv (by decide +kernel)
-- HungerDays$State.copyFrom(LHungerDays$State;)V (r33, r84)
def sm_72_d283d0f5 : sv_SM := (72, 1, 0, [.inr (some 33), .inr (some 84)], [], [(33, 1, 3), (34, 0, 15), (35, 0, 15), (36, 0, 15), (37, 0, 15), (38, 0, 15), (39, 0, 15)], [(none, [], [])])
set_option maxRecDepth 1000000 in
theorem sm_72_d283d0f5_ok : sv_valid sg sm_72_d283d0f5 := sv_main (S := []) (na := 2) (cut := []) (cs := []) (sp := []) (N := 1) sv_nv (by decide +kernel)
-- HungerDays$State.copyFrom(LHungerDays$State;)V (r33, r77)
def sm_72_39f52985 : sv_SM := (72, 1, 0, [.inr (some 33), .inr (some 77)], [], [(33, 1, 3), (34, 0, 15), (35, 0, 15), (36, 0, 15), (37, 0, 15), (38, 0, 15), (39, 0, 15)], [(none, [], [])])
set_option maxRecDepth 1000000 in
theorem sm_72_39f52985_ok : sv_valid sg sm_72_39f52985 := sv_main (S := []) (na := 2) (cut := []) (cs := []) (sp := []) (N := 1) sv_nv (by decide +kernel)
-- HungerDays$State.copyFrom(LHungerDays$State;)V (r33, r70)
def sm_72_10ce3c06 : sv_SM := (72, 1, 0, [.inr (some 33), .inr (some 70)], [], [(33, 1, 3), (34, 0, 15), (35, 0, 15), (36, 0, 15), (37, 0, 15), (38, 0, 15), (39, 0, 15)], [(none, [], [])])
set_option maxRecDepth 1000000 in
theorem sm_72_10ce3c06_ok : sv_valid sg sm_72_10ce3c06 := sv_main (S := []) (na := 2) (cut := []) (cs := []) (sp := []) (N := 1) sv_nv (by decide +kernel)
-- HungerDays$State.copyFrom(LHungerDays$State;)V (r33, r63)
def sm_72_12891668 : sv_SM := (72, 1, 0, [.inr (some 33), .inr (some 63)], [], [(33, 1, 3), (34, 0, 15), (35, 0, 15), (36, 0, 15), (37, 0, 15), (38, 0, 15), (39, 0, 15)], [(none, [], [])])
set_option maxRecDepth 1000000 in
theorem sm_72_12891668_ok : sv_valid sg sm_72_12891668 := sv_main (S := []) (na := 2) (cut := []) (cs := []) (sp := []) (N := 1) sv_nv (by decide +kernel)
-- HungerDays$State.copyFrom(LHungerDays$State;)V (r33, r56)
def sm_72_144068da : sv_SM := (72, 1, 0, [.inr (some 33), .inr (some 56)], [], [(33, 1, 3), (34, 0, 15), (35, 0, 15), (36, 0, 15), (37, 0, 15), (38, 0, 15), (39, 0, 15)], [(none, [], [])])
set_option maxRecDepth 1000000 in
theorem sm_72_144068da_ok : sv_valid sg sm_72_144068da := sv_main (S := []) (na := 2) (cut := []) (cs := []) (sp := []) (N := 1) sv_nv (by decide +kernel)
-- HungerDays$State.copyFrom(LHungerDays$State;)V (r33, r49)
def sm_72_1c1dd073 : sv_SM := (72, 1, 0, [.inr (some 33), .inr (some 49)], [], [(33, 1, 3), (34, 0, 15), (35, 0, 15), (36, 0, 15), (37, 0, 15), (38, 0, 15), (39, 0, 15)], [(none, [], [])])
set_option maxRecDepth 1000000 in
theorem sm_72_1c1dd073_ok : sv_valid sg sm_72_1c1dd073 := sv_main (S := []) (na := 2) (cut := []) (cs := []) (sp := []) (N := 1) sv_nv (by decide +kernel)
-- HungerDays$History.goBack(LHungerDays$State;)Z (r47, r33)
def sm_54_24d6a40d : sv_SM := (54, 2, 0, [.inr (some 47), .inr (some 33)], [(770050, 2147483648, 2147483656, 0, 0)], [(33, 1, 3), (34, 0, 15), (35, 0, 15), (36, 0, 15), (37, 0, 15), (38, 0, 15), (39, 0, 15), (47, 1, 2)], [(some (.inl (2147483648, 2147483648, 0, 0, 0)), [], [(770050, 2147483648, 2147483648, 0, 0)]), (some (.inl (2147483649, 2147483649, 0, 0, 0)), [], [(770050, 2147483648, 2147483655, 0, 0)])])
set_option maxRecDepth 1000000 in
theorem sm_54_24d6a40d_ok : sv_valid sg sm_54_24d6a40d := sv_main (S := [sm_72_433c0e5d, sm_72_387130d8, sm_72_d283d0f5, sm_72_39f52985, sm_72_10ce3c06, sm_72_12891668, sm_72_144068da, sm_72_1c1dd073]) (na := 2) (cut := []) (cs := []) (sp := []) (N := 1) (sv_cv sm_72_433c0e5d_ok (sv_cv sm_72_387130d8_ok (sv_cv sm_72_d283d0f5_ok (sv_cv sm_72_39f52985_ok (sv_cv sm_72_10ce3c06_ok (sv_cv sm_72_12891668_ok (sv_cv sm_72_144068da_ok (sv_cv sm_72_1c1dd073_ok sv_nv)))))))) (by decide +kernel)
-- HungerDays.undo()I (r0)
def sm_46_19eb1342 : sv_SM := (46, 3, 0, [.inr (some 0)], [], [(33, 1, 3), (34, 0, 15), (35, 0, 15), (36, 0, 15), (37, 0, 15), (38, 0, 15), (39, 0, 15), (47, 1, 2)], [(some (.inl (2147483648, 2147483656, 0, 0, 0)), [], []), (some (.inl (2147483647, 2147483647, 0, 0, 0)), [], [])])
set_option maxRecDepth 1000000 in
theorem sm_46_19eb1342_ok : sv_valid sg sm_46_19eb1342 := sv_main (S := [sm_54_24d6a40d]) (na := 1) (cut := []) (cs := []) (sp := []) (N := 1) (sv_cv sm_54_24d6a40d_ok sv_nv) (by decide +kernel)
-- HungerDays$Reader.open(II)V (r2, [0,940], 900)
def sm_62_23377289 : sv_SM := (62, 3, 0, [.inr (some 2), .inl (2147483648, 2147484588, 0, 0, 0), .inl (2147484548, 2147484548, 0, 0, 0)], [], [(2, 2, 12)], [(none, [], [])])
set_option maxRecDepth 1000000 in
theorem sm_62_23377289_ok : sv_valid sg sm_62_23377289 := sv_main (S := [sm_61_078b38e8]) (na := 3) (cut := []) (cs := []) (sp := []) (N := 1) (sv_cv sm_61_078b38e8_ok sv_nv) (by decide +kernel)
-- HungerDays.openTape(I)V (r0, 900)
def sm_33_ff686184 : sv_SM := (33, 4, 0, [.inr (some 0), .inl (2147484548, 2147484548, 0, 0, 0)], [], [(0, 1, 1), (2, 2, 12)], [(none, [], [])])
set_option maxRecDepth 1000000 in
theorem sm_33_ff686184_ok : sv_valid sg sm_33_ff686184 := sv_main (S := [sm_62_23377289]) (na := 2) (cut := []) (cs := []) (sp := []) (N := 1) (sv_cv sm_62_23377289_ok sv_nv) (by decide +kernel)
-- HungerDays$Valley.clear()V (r18)
def sm_84_82071772 : sv_SM := (84, 1, 0, [.inr (some 18)], [], [(18, 0, 6)], [(none, [], [])])
set_option maxRecDepth 1000000 in
theorem sm_84_82071772_ok : sv_valid sg sm_84_82071772 := sv_main (S := []) (na := 1) (cut := []) (cs := []) (sp := []) (N := 1) sv_nv (by decide +kernel)
-- HungerDays$Valley.numberOf(IJ)I (r18, 0, l)
def sm_232_d44d74b7 : sv_SM := (232, 1, 0, [.inr (some 18), .inl (2147483648, 2147483648, 0, 0, 0), .inr none], [], [], [(some (.inl (2147483648, 2147483653, 0, 0, 0)), [], []), (some (.inl (2147483647, 2147483647, 0, 0, 0)), [], [])])
set_option maxRecDepth 1000000 in
theorem sm_232_d44d74b7_ok : sv_valid sg sm_232_d44d74b7 := sv_main (S := []) (na := 2) (cut := [61]) (cs := [(61, 1, 1, 13, [some (.inr (some 18)), some (.inl (2147483648, 2147483648, 0, 0, 0)), some (.inr none), none, some (.inr (some 19)), some (.inl (2147483648, 2147483654, 0, 0, 0)), some (.inl (2147483648, 2147483654, 0, 0, 0))], [], [])]) (sp := []) (N := 2) sv_nv (by decide +kernel)
-- HungerDays$Reader.lookNamed(LHungerDays$Valley;I)I (r2, r18, 0)
def sm_186_7fc65095 : sv_SM := (186, 2, 0, [.inr (some 2), .inr (some 18), .inl (2147483648, 2147483648, 0, 0, 0)], [], [(2, 11, 12)], [(some (.inl (2147483647, 2147483647, 0, 0, 0)), [], []), (some (.inl (2147483648, 2147483653, 0, 0, 0)), [], [])])
set_option maxRecDepth 1000000 in
theorem sm_186_7fc65095_ok : sv_valid sg sm_186_7fc65095 := sv_main (S := [sm_185_4187aa83, sm_63_05d71500, sm_232_d44d74b7, sm_63_d230e48b, sm_184_4187aa83]) (na := 3) (cut := []) (cs := []) (sp := []) (N := 1) (sv_cv sm_185_4187aa83_ok (sv_cv sm_63_05d71500_ok (sv_cv sm_232_d44d74b7_ok (sv_cv sm_63_d230e48b_ok (sv_cv sm_184_4187aa83_ok sv_nv))))) (by decide +kernel)
-- HungerDays$Reader.takeNamed(LHungerDays$Valley;I)I (r2, r18, 0)
def sm_188_7fc65095 : sv_SM := (188, 3, 0, [.inr (some 2), .inr (some 18), .inl (2147483648, 2147483648, 0, 0, 0)], [], [(2, 4, 12)], [(some (.inl (2147483648, 2147483653, 0, 0, 0)), [], []), (some (.inl (2147483647, 2147483647, 0, 0, 0)), [], [])])
set_option maxRecDepth 1000000 in
theorem sm_188_7fc65095_ok : sv_valid sg sm_188_7fc65095 := sv_main (S := [sm_186_7fc65095, sm_61_078b38e8]) (na := 3) (cut := []) (cs := []) (sp := []) (N := 1) (sv_cv sm_186_7fc65095_ok (sv_cv sm_61_078b38e8_ok sv_nv)) (by decide +kernel)
-- HungerDays$Valley.hasDebt(II)Z (r18, [0,5], [0,5])
def sm_229_f3e1ae9e : sv_SM := (229, 1, 0, [.inr (some 18), .inl (2147483648, 2147483653, 0, 0, 0), .inl (2147483648, 2147483653, 0, 0, 0)], [], [], [(some (.inl (2147483649, 2147483649, 0, 0, 0)), [], []), (some (.inl (2147483648, 2147483648, 0, 0, 0)), [], [])])
set_option maxRecDepth 1000000 in
theorem sm_229_f3e1ae9e_ok : sv_valid sg sm_229_f3e1ae9e := sv_main (S := []) (na := 3) (cut := [2]) (cs := [(2, 1, 1, 7, [some (.inr (some 18)), some (.inl (2147483648, 2147483653, 0, 0, 0)), some (.inl (2147483648, 2147483653, 0, 0, 0)), some (.inl (2147483648, 2147483658, 0, 0, 0))], [], [])]) (sp := []) (N := 2) sv_nv (by decide +kernel)
-- HungerDays$Reader.takeNumber(II)I (r2, 1, 250)
def sm_189_bdc9aeae : sv_SM := (189, 3, 0, [.inr (some 2), .inl (2147483649, 2147483649, 0, 0, 0), .inl (2147483898, 2147483898, 0, 0, 0)], [], [(2, 4, 12)], [(some (.inl (2147483647, 2147483647, 0, 0, 0)), [], []), (some (.inl (0, 4294967295, 0, 0, 0)), [], [])])
set_option maxRecDepth 1000000 in
theorem sm_189_bdc9aeae_ok : sv_valid sg sm_189_bdc9aeae := sv_main (S := [sm_63_05d71500, sm_184_4187aa83, sm_61_078b38e8, sm_63_468dda67]) (na := 3) (cut := []) (cs := []) (sp := []) (N := 1) (sv_cv sm_63_05d71500_ok (sv_cv sm_184_4187aa83_ok (sv_cv sm_61_078b38e8_ok (sv_cv sm_63_468dda67_ok sv_nv)))) (by decide +kernel)
-- HungerDays$Reader.takeNumber(II)I (r2, 0, 199)
def sm_189_d703f9e0 : sv_SM := (189, 3, 0, [.inr (some 2), .inl (2147483648, 2147483648, 0, 0, 0), .inl (2147483847, 2147483847, 0, 0, 0)], [], [(2, 4, 12)], [(some (.inl (2147483647, 2147483647, 0, 0, 0)), [], []), (some (.inl (0, 4294967295, 0, 0, 0)), [], [])])
set_option maxRecDepth 1000000 in
theorem sm_189_d703f9e0_ok : sv_valid sg sm_189_d703f9e0 := sv_main (S := [sm_63_05d71500, sm_184_4187aa83, sm_61_078b38e8, sm_63_468dda67]) (na := 3) (cut := []) (cs := []) (sp := []) (N := 1) (sv_cv sm_63_05d71500_ok (sv_cv sm_184_4187aa83_ok (sv_cv sm_61_078b38e8_ok (sv_cv sm_63_468dda67_ok sv_nv)))) (by decide +kernel)
-- HungerDays$ValleyText.readDebt()Z (r32)
def sm_233_8c93d169 : sv_SM := (233, 4, 0, [.inr (some 32)], [], [(2, 4, 12), (18, 6, 6), (28, 0, 9), (29, 0, 9), (30, 0, 9), (31, 0, 9)], [(some (.inl (2147483648, 2147483648, 0, 0, 0)), [], []), (some (.inl (2147483649, 2147483649, 0, 0, 0)), [], [])])
set_option maxRecDepth 1000000 in
theorem sm_233_8c93d169_ok : sv_valid sg sm_233_8c93d169 := sv_main (S := [sm_63_b486a1fe, sm_61_078b38e8, sm_188_7fc65095, sm_186_7fc65095, sm_63_d230e48b, sm_229_f3e1ae9e, sm_189_bdc9aeae, sm_189_d703f9e0, sm_184_4187aa83]) (na := 1) (cut := []) (cs := []) (sp := []) (N := 1) (sv_cv sm_63_b486a1fe_ok (sv_cv sm_61_078b38e8_ok (sv_cv sm_188_7fc65095_ok (sv_cv sm_186_7fc65095_ok (sv_cv sm_63_d230e48b_ok (sv_cv sm_229_f3e1ae9e_ok (sv_cv sm_189_bdc9aeae_ok (sv_cv sm_189_d703f9e0_ok (sv_cv sm_184_4187aa83_ok sv_nv))))))))) (by decide +kernel)
-- HungerDays$Valley.numberOf(IJ)I (r18, 1, l)
def sm_232_7abc1bed : sv_SM := (232, 1, 0, [.inr (some 18), .inl (2147483649, 2147483649, 0, 0, 0), .inr none], [], [], [(some (.inl (2147483648, 2147483651, 0, 0, 0)), [], []), (some (.inl (2147483647, 2147483647, 0, 0, 0)), [], [])])
set_option maxRecDepth 1000000 in
theorem sm_232_7abc1bed_ok : sv_valid sg sm_232_7abc1bed := sv_main (S := []) (na := 2) (cut := [61]) (cs := [(61, 1, 1, 13, [some (.inr (some 18)), some (.inl (2147483649, 2147483649, 0, 0, 0)), some (.inr none), none, some (.inr (some 20)), some (.inl (2147483648, 2147483652, 0, 0, 0)), some (.inl (2147483648, 2147483652, 0, 0, 0))], [], [])]) (sp := []) (N := 2) sv_nv (by decide +kernel)
-- HungerDays$Valley.numberOf(IJ)I (r18, 2, l)
def sm_232_28815425 : sv_SM := (232, 1, 0, [.inr (some 18), .inl (2147483650, 2147483650, 0, 0, 0), .inr none], [], [], [(some (.inl (2147483648, 2147483653, 0, 0, 0)), [], []), (some (.inl (2147483647, 2147483647, 0, 0, 0)), [], [])])
set_option maxRecDepth 1000000 in
theorem sm_232_28815425_ok : sv_valid sg sm_232_28815425 := sv_main (S := []) (na := 2) (cut := [61]) (cs := [(61, 1, 1, 13, [some (.inr (some 18)), some (.inl (2147483650, 2147483650, 0, 0, 0)), some (.inr none), none, some (.inr (some 21)), some (.inl (2147483648, 2147483654, 0, 0, 0)), some (.inl (2147483648, 2147483654, 0, 0, 0))], [], [])]) (sp := []) (N := 2) sv_nv (by decide +kernel)
-- HungerDays$Valley.hasName(J)Z (r18, l)
def sm_230_eb4e7f33 : sv_SM := (230, 2, 0, [.inr (some 18), .inr none], [], [], [(some (.inl (2147483648, 2147483648, 0, 0, 0)), [], []), (some (.inl (2147483649, 2147483649, 0, 0, 0)), [], [])])
set_option maxRecDepth 1000000 in
theorem sm_230_eb4e7f33_ok : sv_valid sg sm_230_eb4e7f33 := sv_main (S := [sm_232_d44d74b7, sm_232_7abc1bed, sm_232_28815425]) (na := 1) (cut := []) (cs := []) (sp := []) (N := 1) (sv_cv sm_232_d44d74b7_ok (sv_cv sm_232_7abc1bed_ok (sv_cv sm_232_28815425_ok sv_nv))) (by decide +kernel)
-- HungerDays$ValleyText.takeNewName()J (r32)
def sm_240_8c93d169 : sv_SM := (240, 3, 0, [.inr (some 32)], [], [(2, 4, 12)], [(some (.inr none), [], [])])
set_option maxRecDepth 1000000 in
theorem sm_240_8c93d169_ok : sv_valid sg sm_240_8c93d169 := sv_main (S := [sm_185_4187aa83, sm_63_05d71500, sm_184_4187aa83, sm_61_078b38e8, sm_230_eb4e7f33, sm_63_d230e48b]) (na := 1) (cut := []) (cs := []) (sp := []) (N := 1) (sv_cv sm_185_4187aa83_ok (sv_cv sm_63_05d71500_ok (sv_cv sm_184_4187aa83_ok (sv_cv sm_61_078b38e8_ok (sv_cv sm_230_eb4e7f33_ok (sv_cv sm_63_d230e48b_ok sv_nv)))))) (by decide +kernel)
-- HungerDays$ValleyText.readMeeting()Z (r32)
def sm_236_8c93d169 : sv_SM := (236, 4, 0, [.inr (some 32)], [], [(2, 4, 12), (18, 5, 5), (21, 0, 5), (27, 0, 5)], [(some (.inl (2147483648, 2147483648, 0, 0, 0)), [], []), (some (.inl (2147483649, 2147483649, 0, 0, 0)), [], [])])
set_option maxRecDepth 1000000 in
theorem sm_236_8c93d169_ok : sv_valid sg sm_236_8c93d169 := sv_main (S := [sm_63_b486a1fe, sm_61_078b38e8, sm_240_8c93d169, sm_60_4ced0f8d, sm_186_7fc65095, sm_63_d230e48b]) (na := 1) (cut := [47]) (cs := [(47, 1, 1, 7, [some (.inr (some 32)), some (.inl (2147483648, 2147483653, 0, 0, 0)), some (.inl (0, 4294967295, 0, 0, 0)), some (.inl (2147483648, 2147483655, 0, 0, 0)), none], [], [])]) (sp := []) (N := 2) (sv_cv sm_63_b486a1fe_ok (sv_cv sm_61_078b38e8_ok (sv_cv sm_240_8c93d169_ok (sv_cv sm_60_4ced0f8d_ok (sv_cv sm_186_7fc65095_ok (sv_cv sm_63_d230e48b_ok sv_nv)))))) (by decide +kernel)
-- HungerDays$Reader.takeNumber(II)I (r2, 0, 5)
def sm_189_ae900e3b : sv_SM := (189, 3, 0, [.inr (some 2), .inl (2147483648, 2147483648, 0, 0, 0), .inl (2147483653, 2147483653, 0, 0, 0)], [], [(2, 4, 12)], [(some (.inl (2147483647, 2147483647, 0, 0, 0)), [], []), (some (.inl (0, 4294967295, 0, 0, 0)), [], [])])
set_option maxRecDepth 1000000 in
theorem sm_189_ae900e3b_ok : sv_valid sg sm_189_ae900e3b := sv_main (S := [sm_63_05d71500, sm_184_4187aa83, sm_61_078b38e8, sm_63_468dda67]) (na := 3) (cut := []) (cs := []) (sp := []) (N := 1) (sv_cv sm_63_05d71500_ok (sv_cv sm_184_4187aa83_ok (sv_cv sm_61_078b38e8_ok (sv_cv sm_63_468dda67_ok sv_nv)))) (by decide +kernel)
-- HungerDays$ValleyText.readFood()Z (r32)
def sm_234_8c93d169 : sv_SM := (234, 4, 0, [.inr (some 32)], [], [(2, 4, 12), (18, 4, 4), (20, 0, 3), (25, 0, 3), (26, 0, 3)], [(some (.inl (2147483648, 2147483648, 0, 0, 0)), [], []), (some (.inl (2147483649, 2147483649, 0, 0, 0)), [], [])])
set_option maxRecDepth 1000000 in
theorem sm_234_8c93d169_ok : sv_valid sg sm_234_8c93d169 := sv_main (S := [sm_63_b486a1fe, sm_61_078b38e8, sm_240_8c93d169, sm_189_8180155f, sm_189_ae900e3b, sm_184_4187aa83]) (na := 1) (cut := []) (cs := []) (sp := []) (N := 1) (sv_cv sm_63_b486a1fe_ok (sv_cv sm_61_078b38e8_ok (sv_cv sm_240_8c93d169_ok (sv_cv sm_189_8180155f_ok (sv_cv sm_189_ae900e3b_ok (sv_cv sm_184_4187aa83_ok sv_nv)))))) (by decide +kernel)
-- HungerDays$Reader.takeNumber(II)I (r2, 0, 9)
def sm_189_91f7ff48 : sv_SM := (189, 3, 0, [.inr (some 2), .inl (2147483648, 2147483648, 0, 0, 0), .inl (2147483657, 2147483657, 0, 0, 0)], [], [(2, 4, 12)], [(some (.inl (2147483647, 2147483647, 0, 0, 0)), [], []), (some (.inl (0, 4294967295, 0, 0, 0)), [], [])])
set_option maxRecDepth 1000000 in
theorem sm_189_91f7ff48_ok : sv_valid sg sm_189_91f7ff48 := sv_main (S := [sm_63_05d71500, sm_184_4187aa83, sm_61_078b38e8, sm_63_468dda67]) (na := 3) (cut := []) (cs := []) (sp := []) (N := 1) (sv_cv sm_63_05d71500_ok (sv_cv sm_184_4187aa83_ok (sv_cv sm_61_078b38e8_ok (sv_cv sm_63_468dda67_ok sv_nv)))) (by decide +kernel)
-- HungerDays$ValleyText.readPerson()Z (r32)
def sm_237_8c93d169 : sv_SM := (237, 4, 0, [.inr (some 32)], [], [(2, 4, 12), (18, 3, 3), (19, 0, 5), (22, 0, 5), (23, 0, 5), (24, 0, 5)], [(some (.inl (2147483648, 2147483648, 0, 0, 0)), [], []), (some (.inl (2147483649, 2147483649, 0, 0, 0)), [], [])])
set_option maxRecDepth 1000000 in
theorem sm_237_8c93d169_ok : sv_valid sg sm_237_8c93d169 := sv_main (S := [sm_63_b486a1fe, sm_61_078b38e8, sm_240_8c93d169, sm_189_91f7ff48, sm_189_d703f9e0, sm_189_4d2f1930, sm_184_4187aa83]) (na := 1) (cut := []) (cs := []) (sp := []) (N := 1) (sv_cv sm_63_b486a1fe_ok (sv_cv sm_61_078b38e8_ok (sv_cv sm_240_8c93d169_ok (sv_cv sm_189_91f7ff48_ok (sv_cv sm_189_d703f9e0_ok (sv_cv sm_189_4d2f1930_ok (sv_cv sm_184_4187aa83_ok sv_nv))))))) (by decide +kernel)
-- HungerDays$Reader.takeNumber(II)I (r2, 0, 399)
def sm_189_e4d3a504 : sv_SM := (189, 3, 0, [.inr (some 2), .inl (2147483648, 2147483648, 0, 0, 0), .inl (2147484047, 2147484047, 0, 0, 0)], [], [(2, 4, 12)], [(some (.inl (2147483647, 2147483647, 0, 0, 0)), [], []), (some (.inl (0, 4294967295, 0, 0, 0)), [], [])])
set_option maxRecDepth 1000000 in
theorem sm_189_e4d3a504_ok : sv_valid sg sm_189_e4d3a504 := sv_main (S := [sm_63_05d71500, sm_184_4187aa83, sm_61_078b38e8, sm_63_468dda67]) (na := 3) (cut := []) (cs := []) (sp := []) (N := 1) (sv_cv sm_63_05d71500_ok (sv_cv sm_184_4187aa83_ok (sv_cv sm_61_078b38e8_ok (sv_cv sm_63_468dda67_ok sv_nv)))) (by decide +kernel)
-- HungerDays$Reader.takeNumber(II)I (r2, 1, 200)
def sm_189_94c5721b : sv_SM := (189, 3, 0, [.inr (some 2), .inl (2147483649, 2147483649, 0, 0, 0), .inl (2147483848, 2147483848, 0, 0, 0)], [], [(2, 4, 12)], [(some (.inl (2147483647, 2147483647, 0, 0, 0)), [], []), (some (.inl (0, 4294967295, 0, 0, 0)), [], [])])
set_option maxRecDepth 1000000 in
theorem sm_189_94c5721b_ok : sv_valid sg sm_189_94c5721b := sv_main (S := [sm_63_05d71500, sm_184_4187aa83, sm_61_078b38e8, sm_63_468dda67]) (na := 3) (cut := []) (cs := []) (sp := []) (N := 1) (sv_cv sm_63_05d71500_ok (sv_cv sm_184_4187aa83_ok (sv_cv sm_61_078b38e8_ok (sv_cv sm_63_468dda67_ok sv_nv)))) (by decide +kernel)
-- HungerDays$ValleyText.readWinter()Z (r32)
def sm_239_8c93d169 : sv_SM := (239, 4, 0, [.inr (some 32)], [], [(2, 4, 12), (18, 1, 2), (32, 3, 3)], [(some (.inl (2147483648, 2147483648, 0, 0, 0)), [], []), (some (.inl (2147483649, 2147483649, 0, 0, 0)), [], [])])
set_option maxRecDepth 1000000 in
theorem sm_239_8c93d169_ok : sv_valid sg sm_239_8c93d169 := sv_main (S := [sm_63_d230e48b, sm_61_078b38e8, sm_189_e4d3a504, sm_189_94c5721b, sm_184_4187aa83]) (na := 1) (cut := []) (cs := []) (sp := []) (N := 1) (sv_cv sm_63_d230e48b_ok (sv_cv sm_61_078b38e8_ok (sv_cv sm_189_e4d3a504_ok (sv_cv sm_189_94c5721b_ok (sv_cv sm_184_4187aa83_ok sv_nv))))) (by decide +kernel)
-- HungerDays$Reader.takeNumber(II)I (r2, 1, 20)
def sm_189_f2384745 : sv_SM := (189, 3, 0, [.inr (some 2), .inl (2147483649, 2147483649, 0, 0, 0), .inl (2147483668, 2147483668, 0, 0, 0)], [], [(2, 4, 12)], [(some (.inl (2147483647, 2147483647, 0, 0, 0)), [], []), (some (.inl (0, 4294967295, 0, 0, 0)), [], [])])
set_option maxRecDepth 1000000 in
theorem sm_189_f2384745_ok : sv_valid sg sm_189_f2384745 := sv_main (S := [sm_63_05d71500, sm_184_4187aa83, sm_61_078b38e8, sm_63_468dda67]) (na := 3) (cut := []) (cs := []) (sp := []) (N := 1) (sv_cv sm_63_05d71500_ok (sv_cv sm_184_4187aa83_ok (sv_cv sm_61_078b38e8_ok (sv_cv sm_63_468dda67_ok sv_nv)))) (by decide +kernel)
-- HungerDays$ValleyText.readSpan()Z (r32)
def sm_238_8c93d169 : sv_SM := (238, 4, 0, [.inr (some 32)], [], [(2, 4, 12), (18, 0, 0), (32, 2, 2)], [(some (.inl (2147483648, 2147483648, 0, 0, 0)), [], []), (some (.inl (2147483649, 2147483649, 0, 0, 0)), [], [])])
set_option maxRecDepth 1000000 in
theorem sm_238_8c93d169_ok : sv_valid sg sm_238_8c93d169 := sv_main (S := [sm_63_d230e48b, sm_61_078b38e8, sm_189_f2384745, sm_184_4187aa83]) (na := 1) (cut := []) (cs := []) (sp := []) (N := 1) (sv_cv sm_63_d230e48b_ok (sv_cv sm_61_078b38e8_ok (sv_cv sm_189_f2384745_ok (sv_cv sm_184_4187aa83_ok sv_nv)))) (by decide +kernel)
-- HungerDays$ValleyText.readLine()Z (r32)
def sm_235_8c93d169 : sv_SM := (235, 5, 0, [.inr (some 32)], [], [(2, 4, 12), (18, 0, 6), (19, 0, 5), (20, 0, 3), (21, 0, 5), (22, 0, 5), (23, 0, 5), (24, 0, 5), (25, 0, 3), (26, 0, 3), (27, 0, 5), (28, 0, 9), (29, 0, 9), (30, 0, 9), (31, 0, 9), (32, 2, 3)], [(some (.inl (2147483649, 2147483649, 0, 0, 0)), [], []), (some (.inl (2147483648, 2147483648, 0, 0, 0)), [], [])])
set_option maxRecDepth 1000000 in
theorem sm_235_8c93d169_ok : sv_valid sg sm_235_8c93d169 := sv_main (S := [sm_233_8c93d169, sm_236_8c93d169, sm_234_8c93d169, sm_237_8c93d169, sm_239_8c93d169, sm_238_8c93d169, sm_63_05d71500]) (na := 1) (cut := []) (cs := []) (sp := []) (N := 1) (sv_cv sm_233_8c93d169_ok (sv_cv sm_236_8c93d169_ok (sv_cv sm_234_8c93d169_ok (sv_cv sm_237_8c93d169_ok (sv_cv sm_239_8c93d169_ok (sv_cv sm_238_8c93d169_ok (sv_cv sm_63_05d71500_ok sv_nv))))))) (by decide +kernel)
-- HungerDays$ValleyText.readAll()I (r32)
def sm_88_8c93d169 : sv_SM := (88, 6, 0, [.inr (some 32)], [], [(2, 4, 12), (18, 0, 6), (19, 0, 5), (20, 0, 3), (21, 0, 5), (22, 0, 5), (23, 0, 5), (24, 0, 5), (25, 0, 3), (26, 0, 3), (27, 0, 5), (28, 0, 9), (29, 0, 9), (30, 0, 9), (31, 0, 9), (32, 2, 3)], [(some (.inl (2147483648, 2147484548, 0, 0, 0)), [], []), (some (.inl (2147483647, 2147483647, 0, 0, 0)), [], [])])
set_option maxRecDepth 1000000 in
theorem sm_88_8c93d169_ok : sv_valid sg sm_88_8c93d169 := sv_main (S := [sm_84_82071772, sm_59_4187aa83, sm_235_8c93d169, sm_190_4ced0f8d]) (na := 1) (cut := [19]) (cs := [(19, 1, 1, 3, [some (.inr (some 32)), some (.inl (2147483648, 2147484549, 0, 0, 0))], [], [])]) (sp := []) (N := 2) (sv_cv sm_84_82071772_ok (sv_cv sm_59_4187aa83_ok (sv_cv sm_235_8c93d169_ok (sv_cv sm_190_4ced0f8d_ok sv_nv)))) (by decide +kernel)
-- HungerDays$Valley.copyFrom(LHungerDays$Valley;)V (r4, r18)
def sm_85_fb558234 : sv_SM := (85, 1, 0, [.inr (some 4), .inr (some 18)], [], [(4, 0, 6), (5, 0, 15), (6, 0, 15), (7, 0, 15), (8, 0, 15), (9, 0, 15), (10, 0, 15), (11, 0, 15), (12, 0, 15), (13, 0, 15), (14, 0, 15), (15, 0, 15), (16, 0, 15), (17, 0, 15)], [(none, [], [])])
set_option maxRecDepth 1000000 in
theorem sm_85_fb558234_ok : sv_valid sg sm_85_fb558234 := sv_main (S := []) (na := 2) (cut := []) (cs := []) (sp := []) (N := 1) sv_nv (by decide +kernel)
-- HungerDays$State.begin()V (r33)
def sm_71_4d1d0ea9 : sv_SM := (71, 1, 0, [.inr (some 33)], [], [(33, 1, 3), (34, 0, 5), (35, 0, 5), (36, 0, 5), (37, 0, 3), (38, 0, 5), (39, 0, 9)], [(none, [], [])])
set_option maxRecDepth 1000000 in
theorem sm_71_4d1d0ea9_ok : sv_valid sg sm_71_4d1d0ea9 := sv_main (S := []) (na := 1) (cut := [17, 68, 96, 117]) (cs := [(17, 1, 1, 3, [some (.inr (some 33)), some (.inl (2147483648, 2147483654, 0, 0, 0))], [], []), (68, 2, 2, 3, [some (.inr (some 33)), some (.inl (2147483648, 2147483652, 0, 0, 0))], [], []), (96, 3, 3, 3, [some (.inr (some 33)), some (.inl (2147483648, 2147483654, 0, 0, 0))], [], []), (117, 4, 4, 3, [some (.inr (some 33)), some (.inl (2147483648, 2147483658, 0, 0, 0))], [], [])]) (sp := []) (N := 5) sv_nv (by decide +kernel)
-- HungerDays$Sentence.forget()V (r106)
def sm_66_6b9ada4d : sv_SM := (66, 1, 0, [.inr (some 106)], [], [(106, 0, 1)], [(none, [], [])])
set_option maxRecDepth 1000000 in
theorem sm_66_6b9ada4d_ok : sv_valid sg sm_66_6b9ada4d := sv_main (S := []) (na := 1) (cut := []) (cs := []) (sp := []) (N := 1) sv_nv (by decide +kernel)
-- HungerDays.valley()I (r0)
def sm_47_19eb1342 : sv_SM := (47, 7, 0, [.inr (some 0)], [], [(0, 1, 1), (0, 3, 3), (2, 2, 12), (4, 0, 6), (5, 0, 15), (6, 0, 15), (7, 0, 15), (8, 0, 15), (9, 0, 15), (10, 0, 15), (11, 0, 15), (12, 0, 15), (13, 0, 15), (14, 0, 15), (15, 0, 15), (16, 0, 15), (17, 0, 15), (18, 0, 6), (19, 0, 5), (20, 0, 3), (21, 0, 5), (22, 0, 5), (23, 0, 5), (24, 0, 5), (25, 0, 3), (26, 0, 3), (27, 0, 5), (28, 0, 9), (29, 0, 9), (30, 0, 9), (31, 0, 9), (32, 2, 3), (33, 1, 3), (34, 0, 5), (35, 0, 5), (36, 0, 5), (37, 0, 3), (38, 0, 5), (39, 0, 9), (47, 2, 2), (106, 0, 1)], [(some (.inl (0, 4294967295, 0, 0, 0)), [], [])])
set_option maxRecDepth 1000000 in
theorem sm_47_19eb1342_ok : sv_valid sg sm_47_19eb1342 := sv_main (S := [sm_33_ff686184, sm_88_8c93d169, sm_85_fb558234, sm_71_4d1d0ea9, sm_66_6b9ada4d, sm_53_895c94a4]) (na := 1) (cut := []) (cs := []) (sp := []) (N := 1) (sv_cv sm_33_ff686184_ok (sv_cv sm_88_8c93d169_ok (sv_cv sm_85_fb558234_ok (sv_cv sm_71_4d1d0ea9_ok (sv_cv sm_66_6b9ada4d_ok (sv_cv sm_53_895c94a4_ok sv_nv)))))) (by decide +kernel)
