-- by program (wip/p2): summaries, checked
-- HungerDaysModel.isIn(III)Z ([MIN,MAX], 0, 7)
def sm_115_5d422d42 : sv_SM := (115, 1, 0, [.inl (0, 4294967295, 0, 0, 0), .inl (2147483648, 2147483648, 0, 0, 0), .inl (2147483655, 2147483655, 0, 0, 0)], [], [], [(some (.inl (2147483649, 2147483649, 0, 0, 0)), [.inl (2147483648, 2147483655, 0, 0, 0)], []), (some (.inl (2147483648, 2147483648, 0, 0, 0)), [], [])])
set_option maxRecDepth 1000000 in
theorem sm_115_5d422d42_ok : sv_valid sg sm_115_5d422d42 := sv_main (S := []) (na := 3) (cut := []) (cs := []) (sp := []) (N := 1) sv_nv (by decide +kernel)
-- HungerDaysModel.throwsIf(Z)Z (r184, [0,1])
def sm_160_4fa9800d : sv_SM := (160, 1, 0, [.inr (some 184), .inl (2147483648, 2147483649, 0, 0, 0)], [], [(184, 0, 0)], [(some (.inl (2147483649, 2147483649, 0, 0, 0)), [.inr (some 184), .inl (2147483649, 2147483649, 0, 0, 0)], []), (some (.inl (2147483648, 2147483648, 0, 0, 0)), [.inr (some 184), .inl (2147483648, 2147483648, 0, 0, 0)], [])])
set_option maxRecDepth 1000000 in
theorem sm_160_4fa9800d_ok : sv_valid sg sm_160_4fa9800d := sv_main (S := []) (na := 2) (cut := []) (cs := []) (sp := []) (N := 1) sv_nv (by decide +kernel)
-- HungerDaysModel.owes(I)I (r184, [MIN,MAX])
def sm_278_579b40b6 : sv_SM := (278, 2, 0, [.inr (some 184), .inl (0, 4294967295, 0, 0, 0)], [], [], [(some (.inl (0, 4294967295, 0, 0, 0)), [], [])])
set_option maxRecDepth 1000000 in
theorem sm_278_579b40b6_ok : sv_valid sg sm_278_579b40b6 := sv_main (S := [sm_264_c98b48f4]) (na := 2) (cut := [4]) (cs := [(4, 1, 1, 7, [some (.inr (some 184)), some (.inl (0, 4294967295, 0, 0, 0)), some (.inl (0, 4294967295, 0, 0, 0)), some (.inl (2147483648, 2147483658, 0, 0, 0))], [], [])]) (sp := []) (N := 2) (sv_cv sm_264_c98b48f4_ok sv_nv) (by decide +kernel)
-- HungerDaysModel.person(II)I (r184, [MIN,MAX], [MIN,MAX])
def sm_161_431feab5 : sv_SM := (161, 3, 0, [.inr (some 184), .inl (0, 4294967295, 0, 0, 0), .inl (0, 4294967295, 0, 0, 0)], [], [(184, 0, 0)], [(some (.inl (0, 4294967295, 0, 0, 0)), [], [])])
set_option maxRecDepth 1000000 in
theorem sm_161_431feab5_ok : sv_valid sg sm_161_431feab5 := sv_main (S := [sm_117_579b40b6, sm_115_5d422d42, sm_160_4fa9800d, sm_245_8758fad5, sm_267_579b40b6, sm_248_8766a3ad, sm_278_579b40b6]) (na := 3) (cut := [37]) (cs := [(37, 1, 1, 9, [some (.inr (some 184)), some (.inl (2147483648, 2147483653, 0, 0, 0)), some (.inl (2147483648, 2147483655, 0, 0, 0)), some (.inl (0, 4294967295, 0, 0, 0)), some (.inl (2147483648, 2147483654, 0, 0, 0))], [], [])]) (sp := []) (N := 2) (sv_cv sm_117_579b40b6_ok (sv_cv sm_115_5d422d42_ok (sv_cv sm_160_4fa9800d_ok (sv_cv sm_245_8758fad5_ok (sv_cv sm_267_579b40b6_ok (sv_cv sm_248_8766a3ad_ok (sv_cv sm_278_579b40b6_ok sv_nv))))))) (by decide +kernel)
-- HungerDaysModel.debt(II)I (r184, [MIN,MAX], [MIN,MAX])
def sm_162_431feab5 : sv_SM := (162, 4, 0, [.inr (some 184), .inl (0, 4294967295, 0, 0, 0), .inl (0, 4294967295, 0, 0, 0)], [], [(184, 0, 0)], [(some (.inl (0, 4294967295, 0, 0, 0)), [], [])])
set_option maxRecDepth 1000000 in
theorem sm_162_431feab5_ok : sv_valid sg sm_162_431feab5 := sv_main (S := [sm_113_579b40b6, sm_115_902ea7a8, sm_160_4fa9800d, sm_259_c98b48f4]) (na := 3) (cut := []) (cs := []) (sp := []) (N := 1) (sv_cv sm_113_579b40b6_ok (sv_cv sm_115_902ea7a8_ok (sv_cv sm_160_4fa9800d_ok (sv_cv sm_259_c98b48f4_ok sv_nv)))) (by decide +kernel)
-- HungerDays.isPerson(I)Z (r0, [MIN,MAX])
def sm_23_ef2370ea : sv_SM := (23, 1, 0, [.inr (some 0), .inl (0, 4294967295, 0, 0, 0)], [], [], [(some (.inl (2147483649, 2147483649, 0, 0, 0)), [.inr (some 0), .inl (2147483648, 2147483653, 0, 0, 0)], []), (some (.inl (2147483648, 2147483648, 0, 0, 0)), [], [])])
set_option maxRecDepth 1000000 in
theorem sm_23_ef2370ea_ok : sv_valid sg sm_23_ef2370ea := sv_main (S := []) (na := 2) (cut := []) (cs := []) (sp := []) (N := 1) sv_nv (by decide +kernel)
-- HungerDays$State.isIll(I)Z (r33, [0,5])
def sm_207_ec8c1eaf : sv_SM := (207, 1, 0, [.inr (some 33), .inl (2147483648, 2147483653, 0, 0, 0)], [], [], [(some (.inl (2147483649, 2147483649, 0, 0, 0)), [], []), (some (.inl (2147483648, 2147483648, 0, 0, 0)), [], [])])
set_option maxRecDepth 1000000 in
theorem sm_207_ec8c1eaf_ok : sv_valid sg sm_207_ec8c1eaf := sv_main (S := []) (na := 2) (cut := []) (cs := []) (sp := []) (N := 1) sv_nv (by decide +kernel)
-- HungerDays$State.whyNotAil(I)I (r33, [0,5])
def sm_215_ec8c1eaf : sv_SM := (215, 2, 0, [.inr (some 33), .inl (2147483648, 2147483653, 0, 0, 0)], [], [], [(some (.inl (2147483648, 2147483649, 0, 0, 0)), [], [])])
set_option maxRecDepth 1000000 in
theorem sm_215_ec8c1eaf_ok : sv_valid sg sm_215_ec8c1eaf := sv_main (S := [sm_207_ec8c1eaf]) (na := 2) (cut := []) (cs := []) (sp := []) (N := 1) (sv_cv sm_207_ec8c1eaf_ok sv_nv) (by decide +kernel)
-- HungerDays$State.copyFrom(LHungerDays$State;)V (r98, r33)
def sm_72_e73e7af7 : sv_SM := (72, 1, 0, [.inr (some 98), .inr (some 33)], [], [(98, 1, 3), (99, 0, 15), (100, 0, 15), (101, 0, 15), (102, 0, 15), (103, 0, 15), (104, 0, 15)], [(none, [], [])])
set_option maxRecDepth 1000000 in
theorem sm_72_e73e7af7_ok : sv_valid sg sm_72_e73e7af7 := sv_main (S := []) (na := 2) (cut := []) (cs := []) (sp := []) (N := 1) sv_nv (by decide +kernel)
-- HungerDays$State.copyFrom(LHungerDays$State;)V (r91, r33)
def sm_72_49553837 : sv_SM := (72, 1, 0, [.inr (some 91), .inr (some 33)], [], [(91, 1, 3), (92, 0, 15), (93, 0, 15), (94, 0, 15), (95, 0, 15), (96, 0, 15), (97, 0, 15)], [(none, [], [])])
set_option maxRecDepth 1000000 in
theorem sm_72_49553837_ok : sv_valid sg sm_72_49553837 := sv_main (S := []) (na := 2) (cut := []) (cs := []) (sp := []) (N := 1) sv_nv (by decide +kernel)
-- HungerDays$State.copyFrom(LHungerDays$State;)V (r84, r33)
def sm_72_99af2523 : sv_SM := (72, 1, 0, [.inr (some 84), .inr (some 33)], [], [(84, 1, 3), (85, 0, 15), (86, 0, 15), (87, 0, 15), (88, 0, 15), (89, 0, 15), (90, 0, 15)], [(none, [], [])])
set_option maxRecDepth 1000000 in
theorem sm_72_99af2523_ok : sv_valid sg sm_72_99af2523 := sv_main (S := []) (na := 2) (cut := []) (cs := []) (sp := []) (N := 1) sv_nv (by decide +kernel)
-- HungerDays$State.copyFrom(LHungerDays$State;)V (r77, r33)
def sm_72_d6d753eb : sv_SM := (72, 1, 0, [.inr (some 77), .inr (some 33)], [], [(77, 1, 3), (78, 0, 15), (79, 0, 15), (80, 0, 15), (81, 0, 15), (82, 0, 15), (83, 0, 15)], [(none, [], [])])
set_option maxRecDepth 1000000 in
theorem sm_72_d6d753eb_ok : sv_valid sg sm_72_d6d753eb := sv_main (S := []) (na := 2) (cut := []) (cs := []) (sp := []) (N := 1) sv_nv (by decide +kernel)
-- HungerDays$State.copyFrom(LHungerDays$State;)V (r70, r33)
def sm_72_b30e6dab : sv_SM := (72, 1, 0, [.inr (some 70), .inr (some 33)], [], [(70, 1, 3), (71, 0, 15), (72, 0, 15), (73, 0, 15), (74, 0, 15), (75, 0, 15), (76, 0, 15)], [(none, [], [])])
set_option maxRecDepth 1000000 in
theorem sm_72_b30e6dab_ok : sv_valid sg sm_72_b30e6dab := sv_main (S := []) (na := 2) (cut := []) (cs := []) (sp := []) (N := 1) sv_nv (by decide +kernel)
-- HungerDays$State.copyFrom(LHungerDays$State;)V (r63, r33)
def sm_72_11052a3f : sv_SM := (72, 1, 0, [.inr (some 63), .inr (some 33)], [], [(63, 1, 3), (64, 0, 15), (65, 0, 15), (66, 0, 15), (67, 0, 15), (68, 0, 15), (69, 0, 15)], [(none, [], [])])
set_option maxRecDepth 1000000 in
theorem sm_72_11052a3f_ok : sv_valid sg sm_72_11052a3f := sv_main (S := []) (na := 2) (cut := []) (cs := []) (sp := []) (N := 1) sv_nv (by decide +kernel)
-- HungerDays$State.copyFrom(LHungerDays$State;)V (r56, r33)
def sm_72_2c69e4c2 : sv_SM := (72, 1, 0, [.inr (some 56), .inr (some 33)], [], [(56, 1, 3), (57, 0, 15), (58, 0, 15), (59, 0, 15), (60, 0, 15), (61, 0, 15), (62, 0, 15)], [(none, [], [])])
set_option maxRecDepth 1000000 in
theorem sm_72_2c69e4c2_ok : sv_valid sg sm_72_2c69e4c2 := sv_main (S := []) (na := 2) (cut := []) (cs := []) (sp := []) (N := 1) sv_nv (by decide +kernel)
-- HungerDays$State.copyFrom(LHungerDays$State;)V (r49, r33)
def sm_72_6b801656 : sv_SM := (72, 1, 0, [.inr (some 49), .inr (some 33)], [], [(49, 1, 3), (50, 0, 15), (51, 0, 15), (52, 0, 15), (53, 0, 15), (54, 0, 15), (55, 0, 15)], [(none, [], [])])
set_option maxRecDepth 1000000 in
theorem sm_72_6b801656_ok : sv_valid sg sm_72_6b801656 := sv_main (S := []) (na := 2) (cut := []) (cs := []) (sp := []) (N := 1) sv_nv (by decide +kernel)
-- HungerDays$History.keep(LHungerDays$State;)V (r47, r33)
def sm_55_a0326ad6 : sv_SM := (55, 2, 0, [.inr (some 47), .inr (some 33)], [], [(47, 1, 2), (49, 1, 3), (50, 0, 15), (51, 0, 15), (52, 0, 15), (53, 0, 15), (54, 0, 15), (55, 0, 15), (56, 1, 3), (57, 0, 15), (58, 0, 15), (59, 0, 15), (60, 0, 15), (61, 0, 15), (62, 0, 15), (63, 1, 3), (64, 0, 15), (65, 0, 15), (66, 0, 15), (67, 0, 15), (68, 0, 15), (69, 0, 15), (70, 1, 3), (71, 0, 15), (72, 0, 15), (73, 0, 15), (74, 0, 15), (75, 0, 15), (76, 0, 15), (77, 1, 3), (78, 0, 15), (79, 0, 15), (80, 0, 15), (81, 0, 15), (82, 0, 15), (83, 0, 15), (84, 1, 3), (85, 0, 15), (86, 0, 15), (87, 0, 15), (88, 0, 15), (89, 0, 15), (90, 0, 15), (91, 1, 3), (92, 0, 15), (93, 0, 15), (94, 0, 15), (95, 0, 15), (96, 0, 15), (97, 0, 15), (98, 1, 3), (99, 0, 15), (100, 0, 15), (101, 0, 15), (102, 0, 15), (103, 0, 15), (104, 0, 15)], [(none, [], [])])
set_option maxRecDepth 1000000 in
theorem sm_55_a0326ad6_ok : sv_valid sg sm_55_a0326ad6 := sv_main (S := [sm_72_e73e7af7, sm_72_49553837, sm_72_99af2523, sm_72_d6d753eb, sm_72_b30e6dab, sm_72_11052a3f, sm_72_2c69e4c2, sm_72_6b801656]) (na := 2) (cut := []) (cs := []) (sp := []) (N := 1) (sv_cv sm_72_e73e7af7_ok (sv_cv sm_72_49553837_ok (sv_cv sm_72_99af2523_ok (sv_cv sm_72_d6d753eb_ok (sv_cv sm_72_b30e6dab_ok (sv_cv sm_72_11052a3f_ok (sv_cv sm_72_2c69e4c2_ok (sv_cv sm_72_6b801656_ok sv_nv)))))))) (by decide +kernel)
-- HungerDays$State.turnHealth(I)V (r33, [0,5])
def sm_213_ec8c1eaf : sv_SM := (213, 1, 0, [.inr (some 33), .inl (2147483648, 2147483653, 0, 0, 0)], [], [(33, 2, 2)], [(none, [], [])])
set_option maxRecDepth 1000000 in
theorem sm_213_ec8c1eaf_ok : sv_valid sg sm_213_ec8c1eaf := sv_main (S := []) (na := 2) (cut := []) (cs := []) (sp := []) (N := 1) sv_nv (by decide +kernel)
-- HungerDays.ail(I)I (r0, [MIN,MAX])
def sm_1_ef2370ea : sv_SM := (1, 3, 0, [.inr (some 0), .inl (0, 4294967295, 0, 0, 0)], [], [(33, 2, 2), (47, 1, 2), (49, 1, 3), (50, 0, 15), (51, 0, 15), (52, 0, 15), (53, 0, 15), (54, 0, 15), (55, 0, 15), (56, 1, 3), (57, 0, 15), (58, 0, 15), (59, 0, 15), (60, 0, 15), (61, 0, 15), (62, 0, 15), (63, 1, 3), (64, 0, 15), (65, 0, 15), (66, 0, 15), (67, 0, 15), (68, 0, 15), (69, 0, 15), (70, 1, 3), (71, 0, 15), (72, 0, 15), (73, 0, 15), (74, 0, 15), (75, 0, 15), (76, 0, 15), (77, 1, 3), (78, 0, 15), (79, 0, 15), (80, 0, 15), (81, 0, 15), (82, 0, 15), (83, 0, 15), (84, 1, 3), (85, 0, 15), (86, 0, 15), (87, 0, 15), (88, 0, 15), (89, 0, 15), (90, 0, 15), (91, 1, 3), (92, 0, 15), (93, 0, 15), (94, 0, 15), (95, 0, 15), (96, 0, 15), (97, 0, 15), (98, 1, 3), (99, 0, 15), (100, 0, 15), (101, 0, 15), (102, 0, 15), (103, 0, 15), (104, 0, 15)], [(some (.inl (2147483647, 2147483647, 0, 0, 0)), [], []), (some (.inl (2147483648, 2147483649, 0, 0, 0)), [.inr (some 0), .inl (2147483648, 2147483653, 0, 0, 0)], [])])
set_option maxRecDepth 1000000 in
theorem sm_1_ef2370ea_ok : sv_valid sg sm_1_ef2370ea := sv_main (S := [sm_23_ef2370ea, sm_215_ec8c1eaf, sm_55_a0326ad6, sm_213_ec8c1eaf]) (na := 2) (cut := []) (cs := []) (sp := []) (N := 1) (sv_cv sm_23_ef2370ea_ok (sv_cv sm_215_ec8c1eaf_ok (sv_cv sm_55_a0326ad6_ok (sv_cv sm_213_ec8c1eaf_ok sv_nv)))) (by decide +kernel)
-- HungerDays.ask()I (r0)
def sm_2_19eb1342 : sv_SM := (2, 1, 0, [.inr (some 0)], [], [], [(some (.inl (0, 4294967295, 0, 0, 0)), [], [])])
set_option maxRecDepth 1000000 in
theorem sm_2_19eb1342_ok : sv_valid sg sm_2_19eb1342 := sv_main (S := []) (na := 1) (cut := []) (cs := []) (sp := []) (N := 1) sv_nv (by decide +kernel)
-- HungerDays$Plates.portionsOf(II)I ([0,192], 0)
def sm_183_d62c132f : sv_SM := (183, 1, 0, [.inl (2147483648, 2147483840, 0, 0, 0), .inl (2147483648, 2147483648, 0, 0, 0)], [], [], [(some (.inl (2147483648, 2147483651, 0, 0, 0)), [], [])])
set_option maxRecDepth 1000000 in
theorem sm_183_d62c132f_ok : sv_valid sg sm_183_d62c132f := sv_main (S := []) (na := 2) (cut := []) (cs := []) (sp := []) (N := 1) sv_nv (by decide +kernel)
-- HungerDays$Plates.portionsOf(II)I ([0,192], [0,1])
def sm_183_b34b2869 : sv_SM := (183, 1, 0, [.inl (2147483648, 2147483840, 0, 0, 0), .inl (2147483648, 2147483649, 0, 0, 0)], [], [], [(some (.inl (2147483648, 2147483651, 0, 0, 0)), [], [])])
set_option maxRecDepth 1000000 in
theorem sm_183_b34b2869_ok : sv_valid sg sm_183_b34b2869 := sv_main (S := []) (na := 2) (cut := []) (cs := []) (sp := []) (N := 1) sv_nv (by decide +kernel)
-- HungerDays$Plates.portionsOf(II)I ([0,192], [0,2])
def sm_183_d42d4603 : sv_SM := (183, 1, 0, [.inl (2147483648, 2147483840, 0, 0, 0), .inl (2147483648, 2147483650, 0, 0, 0)], [], [], [(some (.inl (2147483648, 2147483651, 0, 0, 0)), [], [])])
set_option maxRecDepth 1000000 in
theorem sm_183_d42d4603_ok : sv_valid sg sm_183_d42d4603 := sv_main (S := []) (na := 2) (cut := []) (cs := []) (sp := []) (N := 1) sv_nv (by decide +kernel)
-- HungerDays$Plates.portionsOf(II)I ([0,192], [0,3])
def sm_183_b14a7d45 : sv_SM := (183, 1, 0, [.inl (2147483648, 2147483840, 0, 0, 0), .inl (2147483648, 2147483651, 0, 0, 0)], [], [], [(some (.inl (2147483648, 2147483651, 0, 0, 0)), [], [])])
set_option maxRecDepth 1000000 in
theorem sm_183_b14a7d45_ok : sv_valid sg sm_183_b14a7d45 := sv_main (S := []) (na := 2) (cut := []) (cs := []) (sp := []) (N := 1) sv_nv (by decide +kernel)
-- HungerDays$Plates.dateBehind(LHungerDays$Valley;II)I (r4, [0,255], [0,192])
def sm_177_bb416441 : sv_SM := (177, 2, 0, [.inr (some 4), .inl (2147483648, 2147483903, 0, 0, 0), .inl (2147483648, 2147483840, 0, 0, 0)], [(65536, 0, 4294967295, 0, 0)], [], [(some (.inl (2147483647, 2147483647, 0, 0, 0)), [.inr (some 4), .inl (2147483648, 2147483903, 0, 0, 0), .inl (2147483649, 2147483840, 0, 0, 0)], []), (some (.inl (2147483648, 4294967295, 0, 0, 0)), [], [])])
set_option maxRecDepth 1000000 in
theorem sm_177_bb416441_ok : sv_valid sg sm_177_bb416441 := sv_main (S := [sm_183_b14a7d45]) (na := 3) (cut := [8]) (cs := [(8, 1, 1, 11, [some (.inr (some 4)), some (.inl (2147483648, 2147483903, 0, 0, 0)), some (.inl (2147483648, 2147483840, 0, 0, 0)), some (.inl (0, 4294967295, 0, 0, 0)), some (.inl (2147483648, 4294967295, 0, 0, 0)), some (.inl (2147483648, 2147483652, 0, 0, 0)), none], [], [(65536, 0, 4294967295, 0, 0)])]) (sp := []) (N := 2) (sv_cv sm_183_b14a7d45_ok sv_nv) (by decide +kernel)
-- HungerDays$Plates.notePlate(II)I (r128, [0,4], [0,192])
def sm_181_8f6dbd0a : sv_SM := (181, 2, 0, [.inr (some 128), .inl (2147483648, 2147483652, 0, 0, 0), .inl (2147483648, 2147483840, 0, 0, 0)], [], [(129, 0, 3)], [(some (.inl (0, 4294967295, 0, 0, 0)), [], [])])
set_option maxRecDepth 1000000 in
theorem sm_181_8f6dbd0a_ok : sv_valid sg sm_181_8f6dbd0a := sv_main (S := [sm_183_b14a7d45]) (na := 3) (cut := [5]) (cs := [(5, 1, 1, 9, [some (.inr (some 128)), some (.inl (2147483648, 2147483652, 0, 0, 0)), some (.inl (2147483648, 2147483840, 0, 0, 0)), some (.inl (0, 4294967295, 0, 0, 0)), some (.inl (2147483648, 2147483652, 0, 0, 0)), none], [], [])]) (sp := []) (N := 2) (sv_cv sm_183_b14a7d45_ok sv_nv) (by decide +kernel)
-- java/lang/Integer.bitCount(I)I ([MIN,MAX])
def sm_152_94ac37e7 : sv_SM := (152, 1, 0, [.inl (0, 4294967295, 0, 0, 0)], [], [], [(some (.inl (2147483648, 2147483711, 0, 0, 0)), [], [])])
set_option maxRecDepth 1000000 in
theorem sm_152_94ac37e7_ok : sv_valid sg sm_152_94ac37e7 := sv_main (S := []) (na := 0) (cut := []) (cs := []) (sp := []) (N := 1) sv_nv (by decide +kernel)
-- HungerDays$Plates.mostUnlike(I)I (r128, [0,4])
def sm_180_b046cd08 : sv_SM := (180, 2, 0, [.inr (some 128), .inl (2147483648, 2147483652, 0, 0, 0)], [], [], [(some (.inl (2147483647, 2147483651, 0, 0, 0)), [], [])])
set_option maxRecDepth 1000000 in
theorem sm_180_b046cd08_ok : sv_valid sg sm_180_b046cd08 := sv_main (S := [sm_152_94ac37e7]) (na := 2) (cut := [7]) (cs := [(7, 1, 1, 9, [some (.inr (some 128)), some (.inl (2147483648, 2147483652, 0, 0, 0)), some (.inl (2147483647, 2147483651, 0, 0, 0)), some (.inl (2147483648, 2147483711, 0, 0, 0)), some (.inl (2147483648, 2147483652, 0, 0, 0)), none], [], [])]) (sp := []) (N := 2) (sv_cv sm_152_94ac37e7_ok sv_nv) (by decide +kernel)
-- HungerDays$Reader.readRun()V (r2)
def sm_187_078b38e8 : sv_SM := (187, 1, 32772, [.inr (some 2)], [(32772, 2147483648, 2147484588, 1, 0)], [(2, 4, 5), (2, 7, 9)], [(none, [], [(32772, 2147483648, 2147484588, 1, 0)])])
set_option maxRecDepth 1000000 in
theorem sm_187_078b38e8_ok : sv_valid sg sm_187_078b38e8 := sv_main (S := []) (na := 1) (cut := [14, 153]) (cs := [(14, 1, 1, 65546, [some (.inr (some 2)), some (.inl (0, 4294967295, 0, 0, 0)), some (.inl (0, 4294967295, 0, 0, 0)), none], [], [(32772, 2147483648, 2147484588, 1, 0)]), (153, 2, 2, 7, [some (.inr (some 2)), some (.inl (0, 2147483655, 0, 0, 0)), some (.inl (0, 2147483648, 0, 0, 0)), some (.inl (2147483648, 2147483670, 0, 0, 0))], [], [(32772, 2147483648, 2147484588, 1, 0)])]) (sp := []) (N := 3) sv_nv (by decide +kernel)
-- HungerDays$Reader.next()V (r2)
def sm_61_078b38e8 : sv_SM := (61, 2, 32772, [.inr (some 2)], [(32772, 2147483648, 2147484588, 1, 0)], [(2, 4, 10)], [(none, [], [(32772, 2147483648, 2147484588, 1, 0)]), (none, [], [(32772, 2147483649, 2147484588, 2, 0)])])
set_option maxRecDepth 1000000 in
theorem sm_61_078b38e8_ok : sv_valid sg sm_61_078b38e8 := sv_main (S := [sm_187_078b38e8]) (na := 1) (cut := [12]) (cs := [(12, 1, 1, 65546, [some (.inr (some 2)), some (.inl (2147483648, 2147484588, 0, 0, 0)), none], [], [(32772, 2147483648, 2147484588, 1, 0)])]) (sp := []) (N := 2) (sv_cv sm_187_078b38e8_ok sv_nv) (by decide +kernel)
-- HungerDays$Reader.open(II)V (r2, [0,940], 400)
def sm_62_de3590a7 : sv_SM := (62, 3, 0, [.inr (some 2), .inl (2147483648, 2147484588, 0, 0, 0), .inl (2147484048, 2147484048, 0, 0, 0)], [], [(2, 2, 12)], [(none, [], [])])
set_option maxRecDepth 1000000 in
theorem sm_62_de3590a7_ok : sv_valid sg sm_62_de3590a7 := sv_main (S := [sm_61_078b38e8]) (na := 3) (cut := []) (cs := []) (sp := []) (N := 1) (sv_cv sm_61_078b38e8_ok sv_nv) (by decide +kernel)
-- HungerDays.openTape(I)V (r0, 400)
def sm_33_026a83aa : sv_SM := (33, 4, 0, [.inr (some 0), .inl (2147484048, 2147484048, 0, 0, 0)], [], [(0, 1, 1), (2, 2, 12)], [(none, [], [])])
set_option maxRecDepth 1000000 in
theorem sm_33_026a83aa_ok : sv_valid sg sm_33_026a83aa := sv_main (S := [sm_62_de3590a7]) (na := 2) (cut := []) (cs := []) (sp := []) (N := 1) (sv_cv sm_62_de3590a7_ok sv_nv) (by decide +kernel)
-- HungerDays$Reader.refuse(I)Z (r2, 1)
def sm_63_05d71500 : sv_SM := (63, 1, 0, [.inr (some 2), .inl (2147483649, 2147483649, 0, 0, 0)], [], [(2, 11, 12)], [(some (.inl (2147483648, 2147483648, 0, 0, 0)), [], [])])
set_option maxRecDepth 1000000 in
theorem sm_63_05d71500_ok : sv_valid sg sm_63_05d71500 := sv_main (S := []) (na := 2) (cut := []) (cs := []) (sp := []) (N := 1) sv_nv (by decide +kernel)
-- HungerDays$Reader.closes()Z (r2)
def sm_59_4187aa83 : sv_SM := (59, 2, 0, [.inr (some 2)], [], [(2, 11, 12)], [(some (.inl (2147483648, 2147483648, 0, 0, 0)), [], []), (some (.inl (2147483649, 2147483649, 0, 0, 0)), [], [])])
set_option maxRecDepth 1000000 in
theorem sm_59_4187aa83_ok : sv_valid sg sm_59_4187aa83 := sv_main (S := [sm_63_05d71500]) (na := 1) (cut := []) (cs := []) (sp := []) (N := 1) (sv_cv sm_63_05d71500_ok sv_nv) (by decide +kernel)
-- HungerDays$Reader.isName()Z (r2)
def sm_185_4187aa83 : sv_SM := (185, 1, 0, [.inr (some 2)], [], [], [(some (.inl (2147483649, 2147483649, 0, 0, 0)), [], []), (some (.inl (2147483648, 2147483648, 0, 0, 0)), [], [])])
set_option maxRecDepth 1000000 in
theorem sm_185_4187aa83_ok : sv_valid sg sm_185_4187aa83 := sv_main (S := []) (na := 1) (cut := []) (cs := []) (sp := []) (N := 1) sv_nv (by decide +kernel)
-- HungerDays$Valley.numberOf(IJ)I (r4, 0, l)
def sm_232_8174fd67 : sv_SM := (232, 1, 0, [.inr (some 4), .inl (2147483648, 2147483648, 0, 0, 0), .inr none], [], [], [(some (.inl (2147483648, 2147483653, 0, 0, 0)), [], []), (some (.inl (2147483647, 2147483647, 0, 0, 0)), [], [])])
set_option maxRecDepth 1000000 in
theorem sm_232_8174fd67_ok : sv_valid sg sm_232_8174fd67 := sv_main (S := []) (na := 2) (cut := [61]) (cs := [(61, 1, 1, 13, [some (.inr (some 4)), some (.inl (2147483648, 2147483648, 0, 0, 0)), some (.inr none), none, some (.inr (some 5)), some (.inl (2147483648, 2147483654, 0, 0, 0)), some (.inl (2147483648, 2147483654, 0, 0, 0))], [], [])]) (sp := []) (N := 2) sv_nv (by decide +kernel)
-- HungerDays$Reader.refuse(I)Z (r2, 3)
def sm_63_d230e48b : sv_SM := (63, 1, 0, [.inr (some 2), .inl (2147483651, 2147483651, 0, 0, 0)], [], [(2, 11, 12)], [(some (.inl (2147483648, 2147483648, 0, 0, 0)), [], [])])
set_option maxRecDepth 1000000 in
theorem sm_63_d230e48b_ok : sv_valid sg sm_63_d230e48b := sv_main (S := []) (na := 2) (cut := []) (cs := []) (sp := []) (N := 1) sv_nv (by decide +kernel)
-- HungerDays$Reader.isGood()Z (r2)
def sm_184_4187aa83 : sv_SM := (184, 1, 0, [.inr (some 2)], [], [], [(some (.inl (2147483649, 2147483649, 0, 0, 0)), [], []), (some (.inl (2147483648, 2147483648, 0, 0, 0)), [], [])])
set_option maxRecDepth 1000000 in
theorem sm_184_4187aa83_ok : sv_valid sg sm_184_4187aa83 := sv_main (S := []) (na := 1) (cut := []) (cs := []) (sp := []) (N := 1) sv_nv (by decide +kernel)
-- HungerDays$Reader.lookNamed(LHungerDays$Valley;I)I (r2, r4, 0)
def sm_186_2ede1899 : sv_SM := (186, 2, 0, [.inr (some 2), .inr (some 4), .inl (2147483648, 2147483648, 0, 0, 0)], [], [(2, 11, 12)], [(some (.inl (2147483647, 2147483647, 0, 0, 0)), [], []), (some (.inl (2147483648, 2147483653, 0, 0, 0)), [], [])])
set_option maxRecDepth 1000000 in
theorem sm_186_2ede1899_ok : sv_valid sg sm_186_2ede1899 := sv_main (S := [sm_185_4187aa83, sm_63_05d71500, sm_232_8174fd67, sm_63_d230e48b, sm_184_4187aa83]) (na := 3) (cut := []) (cs := []) (sp := []) (N := 1) (sv_cv sm_185_4187aa83_ok (sv_cv sm_63_05d71500_ok (sv_cv sm_232_8174fd67_ok (sv_cv sm_63_d230e48b_ok (sv_cv sm_184_4187aa83_ok sv_nv))))) (by decide +kernel)
-- HungerDays$Reader.refuse(I)Z (r2, 4)
def sm_63_b486a1fe : sv_SM := (63, 1, 0, [.inr (some 2), .inl (2147483652, 2147483652, 0, 0, 0)], [], [(2, 11, 12)], [(some (.inl (2147483648, 2147483648, 0, 0, 0)), [], [])])
set_option maxRecDepth 1000000 in
theorem sm_63_b486a1fe_ok : sv_valid sg sm_63_b486a1fe := sv_main (S := []) (na := 2) (cut := []) (cs := []) (sp := []) (N := 1) sv_nv (by decide +kernel)
-- HungerDays$Valley.numberOf(IJ)I (r4, 1, l)
def sm_232_2f85923d : sv_SM := (232, 1, 0, [.inr (some 4), .inl (2147483649, 2147483649, 0, 0, 0), .inr none], [], [], [(some (.inl (2147483648, 2147483651, 0, 0, 0)), [], []), (some (.inl (2147483647, 2147483647, 0, 0, 0)), [], [])])
set_option maxRecDepth 1000000 in
theorem sm_232_2f85923d_ok : sv_valid sg sm_232_2f85923d := sv_main (S := []) (na := 2) (cut := [61]) (cs := [(61, 1, 1, 13, [some (.inr (some 4)), some (.inl (2147483649, 2147483649, 0, 0, 0)), some (.inr none), none, some (.inr (some 6)), some (.inl (2147483648, 2147483652, 0, 0, 0)), some (.inl (2147483648, 2147483652, 0, 0, 0))], [], [])]) (sp := []) (N := 2) sv_nv (by decide +kernel)
-- HungerDays$Reader.lookNamed(LHungerDays$Valley;I)I (r2, r4, 1)
def sm_186_ba632675 : sv_SM := (186, 2, 0, [.inr (some 2), .inr (some 4), .inl (2147483649, 2147483649, 0, 0, 0)], [], [(2, 11, 12)], [(some (.inl (2147483647, 2147483647, 0, 0, 0)), [], []), (some (.inl (2147483648, 2147483651, 0, 0, 0)), [], [])])
set_option maxRecDepth 1000000 in
theorem sm_186_ba632675_ok : sv_valid sg sm_186_ba632675 := sv_main (S := [sm_185_4187aa83, sm_63_05d71500, sm_232_2f85923d, sm_63_d230e48b, sm_184_4187aa83]) (na := 3) (cut := []) (cs := []) (sp := []) (N := 1) (sv_cv sm_185_4187aa83_ok (sv_cv sm_63_05d71500_ok (sv_cv sm_232_2f85923d_ok (sv_cv sm_63_d230e48b_ok (sv_cv sm_184_4187aa83_ok sv_nv))))) (by decide +kernel)
-- HungerDays$Reader.takeNamed(LHungerDays$Valley;I)I (r2, r4, 1)
def sm_188_ba632675 : sv_SM := (188, 3, 0, [.inr (some 2), .inr (some 4), .inl (2147483649, 2147483649, 0, 0, 0)], [], [(2, 4, 12)], [(some (.inl (2147483648, 2147483651, 0, 0, 0)), [], []), (some (.inl (2147483647, 2147483647, 0, 0, 0)), [], [])])
set_option maxRecDepth 1000000 in
theorem sm_188_ba632675_ok : sv_valid sg sm_188_ba632675 := sv_main (S := [sm_186_ba632675, sm_61_078b38e8]) (na := 3) (cut := []) (cs := []) (sp := []) (N := 1) (sv_cv sm_186_ba632675_ok (sv_cv sm_61_078b38e8_ok sv_nv)) (by decide +kernel)
-- HungerDays$Book.readAct()Z (r116)
def sm_170_cc2aa03b : sv_SM := (170, 4, 0, [.inr (some 116)], [(1900546, 2147483648, 2147483687, 0, 0)], [(2, 4, 12), (117, 0, 39), (119, 0, 39)], [(some (.inl (2147483648, 2147483648, 0, 0, 0)), [], [(1900546, 2147483648, 2147483687, 0, 0)]), (some (.inl (2147483649, 2147483649, 0, 0, 0)), [], [(1900546, 2147483648, 2147483687, 0, 0)])])
set_option maxRecDepth 1000000 in
theorem sm_170_cc2aa03b_ok : sv_valid sg sm_170_cc2aa03b := sv_main (S := [sm_63_05d71500, sm_61_078b38e8, sm_188_ba632675]) (na := 1) (cut := []) (cs := []) (sp := []) (N := 1) (sv_cv sm_63_05d71500_ok (sv_cv sm_61_078b38e8_ok (sv_cv sm_188_ba632675_ok sv_nv))) (by decide +kernel)
-- HungerDays$Reader.refuse(I)Z (r2, 2)
def sm_63_468dda67 : sv_SM := (63, 1, 0, [.inr (some 2), .inl (2147483650, 2147483650, 0, 0, 0)], [], [(2, 11, 12)], [(some (.inl (2147483648, 2147483648, 0, 0, 0)), [], [])])
set_option maxRecDepth 1000000 in
theorem sm_63_468dda67_ok : sv_valid sg sm_63_468dda67 := sv_main (S := []) (na := 2) (cut := []) (cs := []) (sp := []) (N := 1) sv_nv (by decide +kernel)
-- HungerDays$Reader.takeNumber(II)I (r2, 1, 60)
def sm_189_8180155f : sv_SM := (189, 3, 0, [.inr (some 2), .inl (2147483649, 2147483649, 0, 0, 0), .inl (2147483708, 2147483708, 0, 0, 0)], [], [(2, 4, 12)], [(some (.inl (2147483647, 2147483647, 0, 0, 0)), [], []), (some (.inl (0, 4294967295, 0, 0, 0)), [], [])])
set_option maxRecDepth 1000000 in
theorem sm_189_8180155f_ok : sv_valid sg sm_189_8180155f := sv_main (S := [sm_63_05d71500, sm_184_4187aa83, sm_61_078b38e8, sm_63_468dda67]) (na := 3) (cut := []) (cs := []) (sp := []) (N := 1) (sv_cv sm_63_05d71500_ok (sv_cv sm_184_4187aa83_ok (sv_cv sm_61_078b38e8_ok (sv_cv sm_63_468dda67_ok sv_nv)))) (by decide +kernel)
-- HungerDays$Valley.numberOf(IJ)I (r4, 2, l)
def sm_232_7db8ddf5 : sv_SM := (232, 1, 0, [.inr (some 4), .inl (2147483650, 2147483650, 0, 0, 0), .inr none], [], [], [(some (.inl (2147483648, 2147483653, 0, 0, 0)), [], []), (some (.inl (2147483647, 2147483647, 0, 0, 0)), [], [])])
set_option maxRecDepth 1000000 in
theorem sm_232_7db8ddf5_ok : sv_valid sg sm_232_7db8ddf5 := sv_main (S := []) (na := 2) (cut := [61]) (cs := [(61, 1, 1, 13, [some (.inr (some 4)), some (.inl (2147483650, 2147483650, 0, 0, 0)), some (.inr none), none, some (.inr (some 7)), some (.inl (2147483648, 2147483654, 0, 0, 0)), some (.inl (2147483648, 2147483654, 0, 0, 0))], [], [])]) (sp := []) (N := 2) sv_nv (by decide +kernel)
-- HungerDays$Reader.lookNamed(LHungerDays$Valley;I)I (r2, r4, 2)
def sm_186_f939e912 : sv_SM := (186, 2, 0, [.inr (some 2), .inr (some 4), .inl (2147483650, 2147483650, 0, 0, 0)], [], [(2, 11, 12)], [(some (.inl (2147483647, 2147483647, 0, 0, 0)), [], []), (some (.inl (2147483648, 2147483653, 0, 0, 0)), [], [])])
set_option maxRecDepth 1000000 in
theorem sm_186_f939e912_ok : sv_valid sg sm_186_f939e912 := sv_main (S := [sm_185_4187aa83, sm_63_05d71500, sm_232_7db8ddf5, sm_63_d230e48b, sm_184_4187aa83]) (na := 3) (cut := []) (cs := []) (sp := []) (N := 1) (sv_cv sm_185_4187aa83_ok (sv_cv sm_63_05d71500_ok (sv_cv sm_232_7db8ddf5_ok (sv_cv sm_63_d230e48b_ok (sv_cv sm_184_4187aa83_ok sv_nv))))) (by decide +kernel)
-- HungerDays$Reader.takeNamed(LHungerDays$Valley;I)I (r2, r4, 2)
def sm_188_f939e912 : sv_SM := (188, 3, 0, [.inr (some 2), .inr (some 4), .inl (2147483650, 2147483650, 0, 0, 0)], [], [(2, 4, 12)], [(some (.inl (2147483648, 2147483653, 0, 0, 0)), [], []), (some (.inl (2147483647, 2147483647, 0, 0, 0)), [], [])])
set_option maxRecDepth 1000000 in
theorem sm_188_f939e912_ok : sv_valid sg sm_188_f939e912 := sv_main (S := [sm_186_f939e912, sm_61_078b38e8]) (na := 3) (cut := []) (cs := []) (sp := []) (N := 1) (sv_cv sm_186_f939e912_ok (sv_cv sm_61_078b38e8_ok sv_nv)) (by decide +kernel)
-- HungerDays$Book.readLine()Z (r116)
def sm_171_eb5a750e : sv_SM := (171, 5, 0, [.inr (some 116)], [(1900546, 2147483648, 2147483688, 0, 0)], [(2, 4, 12), (117, 0, 39), (118, 0, 39), (119, 0, 39)], [(some (.inl (2147483648, 2147483648, 0, 0, 0)), [], []), (some (.inl (2147483649, 2147483649, 0, 0, 0)), [], [(1900546, 2147483648, 2147483687, 0, 0)])])
set_option maxRecDepth 1000000 in
theorem sm_171_eb5a750e_ok : sv_valid sg sm_171_eb5a750e := sv_main (S := [sm_186_2ede1899, sm_63_b486a1fe, sm_61_078b38e8, sm_170_cc2aa03b, sm_189_8180155f, sm_188_f939e912]) (na := 1) (cut := []) (cs := []) (sp := []) (N := 1) (sv_cv sm_186_2ede1899_ok (sv_cv sm_63_b486a1fe_ok (sv_cv sm_61_078b38e8_ok (sv_cv sm_170_cc2aa03b_ok (sv_cv sm_189_8180155f_ok (sv_cv sm_188_f939e912_ok sv_nv)))))) (by decide +kernel)
-- HungerDays$Reader.isSign(I)Z (r2, 59)
def sm_60_4ced0f8d : sv_SM := (60, 1, 0, [.inr (some 2), .inl (2147483707, 2147483707, 0, 0, 0)], [], [], [(some (.inl (2147483649, 2147483649, 0, 0, 0)), [], []), (some (.inl (2147483648, 2147483648, 0, 0, 0)), [], [])])
set_option maxRecDepth 1000000 in
theorem sm_60_4ced0f8d_ok : sv_valid sg sm_60_4ced0f8d := sv_main (S := []) (na := 2) (cut := []) (cs := []) (sp := []) (N := 1) sv_nv (by decide +kernel)
-- HungerDays$Reader.takeSign(I)Z (r2, 59)
def sm_190_4ced0f8d : sv_SM := (190, 3, 0, [.inr (some 2), .inl (2147483707, 2147483707, 0, 0, 0)], [], [(2, 4, 12)], [(some (.inl (2147483648, 2147483648, 0, 0, 0)), [], []), (some (.inl (2147483649, 2147483649, 0, 0, 0)), [], [])])
set_option maxRecDepth 1000000 in
theorem sm_190_4ced0f8d_ok : sv_valid sg sm_190_4ced0f8d := sv_main (S := [sm_60_4ced0f8d, sm_63_05d71500, sm_61_078b38e8]) (na := 2) (cut := []) (cs := []) (sp := []) (N := 1) (sv_cv sm_60_4ced0f8d_ok (sv_cv sm_63_05d71500_ok (sv_cv sm_61_078b38e8_ok sv_nv))) (by decide +kernel)
-- HungerDays$Book.readAll()Z (r116)
def sm_50_eb5a750e : sv_SM := (50, 6, 0, [.inr (some 116)], [(1900546, 2147483648, 2147483688, 0, 0)], [(2, 4, 12), (116, 2, 2), (117, 0, 39), (118, 0, 39), (119, 0, 39)], [(some (.inl (2147483649, 2147483649, 0, 0, 0)), [], []), (some (.inl (2147483648, 2147483648, 0, 0, 0)), [], [])])
set_option maxRecDepth 1000000 in
theorem sm_50_eb5a750e_ok : sv_valid sg sm_50_eb5a750e := sv_main (S := [sm_59_4187aa83, sm_171_eb5a750e, sm_190_4ced0f8d]) (na := 1) (cut := [7]) (cs := [(7, 1, 1, 3, [some (.inr (some 116)), some (.inl (2147483648, 2147483689, 0, 0, 0))], [], [(1900546, 2147483648, 2147483688, 0, 0)])]) (sp := []) (N := 2) (sv_cv sm_59_4187aa83_ok (sv_cv sm_171_eb5a750e_ok (sv_cv sm_190_4ced0f8d_ok sv_nv))) (by decide +kernel)
-- HungerDays$State.dateOf(I)I (r33, [0,5])
def sm_201_2d17ef67 : sv_SM := (201, 1, 0, [.inr (some 33), .inl (2147483648, 2147483653, 0, 0, 0)], [(65536, 0, 4294967295, 0, 0)], [], [(some (.inl (0, 4294967295, 0, 0, 0)), [], [])])
set_option maxRecDepth 1000000 in
theorem sm_201_2d17ef67_ok : sv_valid sg sm_201_2d17ef67 := sv_main (S := []) (na := 2) (cut := []) (cs := []) (sp := []) (N := 1) sv_nv (by decide +kernel)
-- HungerDays$State.isClash(I)Z (r33, 0)
def sm_204_41240649 : sv_SM := (204, 2, 0, [.inr (some 33), .inl (2147483648, 2147483648, 0, 0, 0)], [], [], [(some (.inl (2147483649, 2147483649, 0, 0, 0)), [], []), (some (.inl (2147483648, 2147483648, 0, 0, 0)), [], [])])
set_option maxRecDepth 1000000 in
theorem sm_204_41240649_ok : sv_valid sg sm_204_41240649 := sv_main (S := [sm_201_2d17ef67]) (na := 2) (cut := []) (cs := []) (sp := []) (N := 1) (sv_cv sm_201_2d17ef67_ok sv_nv) (by decide +kernel)
-- java/lang/Integer.bitCount(I)I (0)
def sm_152_13ca8131 : sv_SM := (152, 1, 0, [.inl (2147483648, 2147483648, 0, 0, 0)], [], [], [(some (.inl (2147483648, 2147483648, 0, 0, 0)), [], [])])
set_option maxRecDepth 1000000 in
theorem sm_152_13ca8131_ok : sv_valid sg sm_152_13ca8131 := sv_main (S := []) (na := 0) (cut := []) (cs := []) (sp := []) (N := 1) sv_nv (by decide +kernel)
-- HungerDays.howManyOrWhich(II)I (0, [MIN,MAX])
def sm_16_986c2117 : sv_SM := (16, 2, 0, [.inl (2147483648, 2147483648, 0, 0, 0), .inl (0, 4294967295, 0, 0, 0)], [], [], [(some (.inl (2147483648, 2147483679, 0, 0, 0)), [], []), (some (.inl (2147483647, 2147483647, 0, 0, 0)), [], [])])
set_option maxRecDepth 1000000 in
theorem sm_16_986c2117_ok : sv_valid sg sm_16_986c2117 := sv_main (S := [sm_152_13ca8131]) (na := 2) (cut := [14]) (cs := [(14, 1, 1, 7, [some (.inl (2147483648, 2147483648, 0, 0, 0)), some (.inl (0, 4294967295, 0, 0, 0)), some (.inl (0, 4294967295, 0, 0, 0)), some (.inl (2147483648, 2147483680, 0, 0, 0))], [], [])]) (sp := []) (N := 2) (sv_cv sm_152_13ca8131_ok sv_nv) (by decide +kernel)
-- HungerDays$State.isClash(I)Z (r33, [0,1])
def sm_204_24433d0f : sv_SM := (204, 2, 0, [.inr (some 33), .inl (2147483648, 2147483649, 0, 0, 0)], [], [], [(some (.inl (2147483649, 2147483649, 0, 0, 0)), [], []), (some (.inl (2147483648, 2147483648, 0, 0, 0)), [], [])])
set_option maxRecDepth 1000000 in
theorem sm_204_24433d0f_ok : sv_valid sg sm_204_24433d0f := sv_main (S := [sm_201_2d17ef67]) (na := 2) (cut := []) (cs := []) (sp := []) (N := 1) (sv_cv sm_201_2d17ef67_ok sv_nv) (by decide +kernel)
-- java/lang/Integer.bitCount(I)I ([0,1])
def sm_152_76adba77 : sv_SM := (152, 1, 0, [.inl (2147483648, 2147483649, 0, 0, 0)], [], [], [(some (.inl (2147483648, 2147483711, 0, 0, 0)), [], [])])
set_option maxRecDepth 1000000 in
theorem sm_152_76adba77_ok : sv_valid sg sm_152_76adba77 := sv_main (S := []) (na := 0) (cut := []) (cs := []) (sp := []) (N := 1) sv_nv (by decide +kernel)
-- HungerDays.howManyOrWhich(II)I ([0,1], [MIN,MAX])
def sm_16_5252d284 : sv_SM := (16, 2, 0, [.inl (2147483648, 2147483649, 0, 0, 0), .inl (0, 4294967295, 0, 0, 0)], [], [], [(some (.inl (2147483648, 2147483711, 0, 0, 0)), [], []), (some (.inl (2147483647, 2147483647, 0, 0, 0)), [], [])])
set_option maxRecDepth 1000000 in
theorem sm_16_5252d284_ok : sv_valid sg sm_16_5252d284 := sv_main (S := [sm_152_76adba77]) (na := 2) (cut := [14]) (cs := [(14, 1, 1, 7, [some (.inl (2147483648, 2147483649, 0, 0, 0)), some (.inl (0, 4294967295, 0, 0, 0)), some (.inl (0, 4294967295, 0, 0, 0)), some (.inl (2147483648, 2147483680, 0, 0, 0))], [], [])]) (sp := []) (N := 2) (sv_cv sm_152_76adba77_ok sv_nv) (by decide +kernel)
-- HungerDays$State.isClash(I)Z (r33, [0,2])
def sm_204_43255365 : sv_SM := (204, 2, 0, [.inr (some 33), .inl (2147483648, 2147483650, 0, 0, 0)], [], [], [(some (.inl (2147483649, 2147483649, 0, 0, 0)), [], []), (some (.inl (2147483648, 2147483648, 0, 0, 0)), [], [])])
set_option maxRecDepth 1000000 in
theorem sm_204_43255365_ok : sv_valid sg sm_204_43255365 := sv_main (S := [sm_201_2d17ef67]) (na := 2) (cut := []) (cs := []) (sp := []) (N := 1) (sv_cv sm_201_2d17ef67_ok sv_nv) (by decide +kernel)
-- HungerDays.howManyOrWhich(II)I ([MIN,MAX], [MIN,MAX])
def sm_16_8758fad5 : sv_SM := (16, 2, 0, [.inl (0, 4294967295, 0, 0, 0), .inl (0, 4294967295, 0, 0, 0)], [], [], [(some (.inl (2147483648, 2147483711, 0, 0, 0)), [], []), (some (.inl (2147483647, 2147483647, 0, 0, 0)), [], [])])
set_option maxRecDepth 1000000 in
theorem sm_16_8758fad5_ok : sv_valid sg sm_16_8758fad5 := sv_main (S := [sm_152_94ac37e7]) (na := 2) (cut := [14]) (cs := [(14, 1, 1, 7, [some (.inl (0, 4294967295, 0, 0, 0)), some (.inl (0, 4294967295, 0, 0, 0)), some (.inl (0, 4294967295, 0, 0, 0)), some (.inl (2147483648, 2147483680, 0, 0, 0))], [], [])]) (sp := []) (N := 2) (sv_cv sm_152_94ac37e7_ok sv_nv) (by decide +kernel)
-- HungerDays$State.isClash(I)Z (r33, [0,3])
def sm_204_26426823 : sv_SM := (204, 2, 0, [.inr (some 33), .inl (2147483648, 2147483651, 0, 0, 0)], [], [], [(some (.inl (2147483649, 2147483649, 0, 0, 0)), [], []), (some (.inl (2147483648, 2147483648, 0, 0, 0)), [], [])])
set_option maxRecDepth 1000000 in
theorem sm_204_26426823_ok : sv_valid sg sm_204_26426823 := sv_main (S := [sm_201_2d17ef67]) (na := 2) (cut := []) (cs := []) (sp := []) (N := 1) (sv_cv sm_201_2d17ef67_ok sv_nv) (by decide +kernel)
-- HungerDays$State.isClash(I)Z (r33, [0,4])
def sm_204_89eb25e9 : sv_SM := (204, 2, 0, [.inr (some 33), .inl (2147483648, 2147483652, 0, 0, 0)], [], [], [(some (.inl (2147483649, 2147483649, 0, 0, 0)), [], []), (some (.inl (2147483648, 2147483648, 0, 0, 0)), [], [])])
set_option maxRecDepth 1000000 in
theorem sm_204_89eb25e9_ok : sv_valid sg sm_204_89eb25e9 := sv_main (S := [sm_201_2d17ef67]) (na := 2) (cut := []) (cs := []) (sp := []) (N := 1) (sv_cv sm_201_2d17ef67_ok sv_nv) (by decide +kernel)
-- HungerDays$State.isClash(I)Z (r33, [0,5])
def sm_204_ec8c1eaf : sv_SM := (204, 2, 0, [.inr (some 33), .inl (2147483648, 2147483653, 0, 0, 0)], [], [], [(some (.inl (2147483649, 2147483649, 0, 0, 0)), [], []), (some (.inl (2147483648, 2147483648, 0, 0, 0)), [], [])])
set_option maxRecDepth 1000000 in
theorem sm_204_ec8c1eaf_ok : sv_valid sg sm_204_ec8c1eaf := sv_main (S := [sm_201_2d17ef67]) (na := 2) (cut := []) (cs := []) (sp := []) (N := 1) (sv_cv sm_201_2d17ef67_ok sv_nv) (by decide +kernel)
-- HungerDays$State.isClash(I)Z (r33, [0,6])
def sm_204_0dc8b83c : sv_SM := (204, 2, 0, [.inr (some 33), .inl (2147483648, 2147483654, 0, 0, 0)], [], [], [(some (.inl (2147483649, 2147483649, 0, 0, 0)), [], []), (some (.inl (2147483648, 2147483648, 0, 0, 0)), [], [])])
set_option maxRecDepth 1000000 in
theorem sm_204_0dc8b83c_ok : sv_valid sg sm_204_0dc8b83c := sv_main (S := [sm_201_2d17ef67]) (na := 2) (cut := []) (cs := []) (sp := []) (N := 1) (sv_cv sm_201_2d17ef67_ok sv_nv) (by decide +kernel)
-- HungerDays$State.isClash(I)Z (r33, [0,7])
def sm_204_68af837a : sv_SM := (204, 2, 0, [.inr (some 33), .inl (2147483648, 2147483655, 0, 0, 0)], [], [], [(some (.inl (2147483649, 2147483649, 0, 0, 0)), [], []), (some (.inl (2147483648, 2147483648, 0, 0, 0)), [], [])])
set_option maxRecDepth 1000000 in
theorem sm_204_68af837a_ok : sv_valid sg sm_204_68af837a := sv_main (S := [sm_201_2d17ef67]) (na := 2) (cut := []) (cs := []) (sp := []) (N := 1) (sv_cv sm_201_2d17ef67_ok sv_nv) (by decide +kernel)
-- HungerDays$State.isClash(I)Z (r33, [0,8])
def sm_204_c706ceb0 : sv_SM := (204, 2, 0, [.inr (some 33), .inl (2147483648, 2147483656, 0, 0, 0)], [], [], [(some (.inl (2147483649, 2147483649, 0, 0, 0)), [], []), (some (.inl (2147483648, 2147483648, 0, 0, 0)), [], [])])
set_option maxRecDepth 1000000 in
theorem sm_204_c706ceb0_ok : sv_valid sg sm_204_c706ceb0 := sv_main (S := [sm_201_2d17ef67]) (na := 2) (cut := []) (cs := []) (sp := []) (N := 1) (sv_cv sm_201_2d17ef67_ok sv_nv) (by decide +kernel)
-- HungerDays$State.isClash(I)Z (r33, [0,9])
def sm_204_a261f5f6 : sv_SM := (204, 2, 0, [.inr (some 33), .inl (2147483648, 2147483657, 0, 0, 0)], [], [], [(some (.inl (2147483649, 2147483649, 0, 0, 0)), [], []), (some (.inl (2147483648, 2147483648, 0, 0, 0)), [], [])])
set_option maxRecDepth 1000000 in
theorem sm_204_a261f5f6_ok : sv_valid sg sm_204_a261f5f6 := sv_main (S := [sm_201_2d17ef67]) (na := 2) (cut := []) (cs := []) (sp := []) (N := 1) (sv_cv sm_201_2d17ef67_ok sv_nv) (by decide +kernel)
-- HungerDays.clash(I)I (r0, [MIN,MAX])
def sm_5_ef2370ea : sv_SM := (5, 3, 0, [.inr (some 0), .inl (0, 4294967295, 0, 0, 0)], [], [], [(some (.inl (2147483647, 2147483647, 0, 0, 0)), [], []), (some (.inl (2147483648, 2147483711, 0, 0, 0)), [], [])])
set_option maxRecDepth 1000000 in
theorem sm_5_ef2370ea_ok : sv_valid sg sm_5_ef2370ea := sv_main (S := [sm_204_a261f5f6, sm_16_8758fad5]) (na := 2) (cut := [4]) (cs := [(4, 1, 1, 7, [some (.inr (some 0)), some (.inl (0, 4294967295, 0, 0, 0)), some (.inl (0, 4294967295, 0, 0, 0)), some (.inl (2147483648, 2147483658, 0, 0, 0))], [], [])]) (sp := []) (N := 2) (sv_cv sm_204_a261f5f6_ok (sv_cv sm_16_8758fad5_ok sv_nv)) (by decide +kernel)
-- HungerDays$State.personsOf(I)I (r33, [MIN,MAX])
def sm_80_32847757 : sv_SM := (80, 2, 0, [.inr (some 33), .inl (0, 4294967295, 0, 0, 0)], [], [], [(some (.inl (0, 4294967295, 0, 0, 0)), [], [])])
set_option maxRecDepth 1000000 in
theorem sm_80_32847757_ok : sv_valid sg sm_80_32847757 := sv_main (S := [sm_201_2d17ef67]) (na := 2) (cut := [4]) (cs := [(4, 1, 1, 7, [some (.inr (some 33)), some (.inl (0, 4294967295, 0, 0, 0)), some (.inl (0, 4294967295, 0, 0, 0)), some (.inl (2147483648, 2147483654, 0, 0, 0))], [], [])]) (sp := []) (N := 2) (sv_cv sm_201_2d17ef67_ok sv_nv) (by decide +kernel)
-- HungerDays.common()I (r0)
def sm_6_19eb1342 : sv_SM := (6, 3, 0, [.inr (some 0)], [], [], [(some (.inl (0, 4294967295, 0, 0, 0)), [], [])])
set_option maxRecDepth 1000000 in
theorem sm_6_19eb1342_ok : sv_valid sg sm_6_19eb1342 := sv_main (S := [sm_201_2d17ef67, sm_80_32847757, sm_152_94ac37e7]) (na := 1) (cut := [6]) (cs := [(6, 1, 1, 7, [some (.inr (some 0)), some (.inl (0, 4294967295, 0, 0, 0)), some (.inl (2147483648, 2147483727, 0, 0, 0)), some (.inl (2147483648, 2147483654, 0, 0, 0)), none, none], [], [])]) (sp := []) (N := 2) (sv_cv sm_201_2d17ef67_ok (sv_cv sm_80_32847757_ok (sv_cv sm_152_94ac37e7_ok sv_nv))) (by decide +kernel)
-- HungerDays.count(I)I (r0, [MIN,MAX])
def sm_7_ef2370ea : sv_SM := (7, 1, 0, [.inr (some 0), .inl (0, 4294967295, 0, 0, 0)], [], [], [(some (.inl (0, 4294967295, 0, 0, 0)), [.inr (some 0), .inl (2147483648, 2147483653, 0, 0, 0)], []), (some (.inl (2147483647, 2147483647, 0, 0, 0)), [], [])])
set_option maxRecDepth 1000000 in
theorem sm_7_ef2370ea_ok : sv_valid sg sm_7_ef2370ea := sv_main (S := []) (na := 2) (cut := []) (cs := []) (sp := []) (N := 1) sv_nv (by decide +kernel)
-- HungerDays$State.isOver()Z (r33)
def sm_76_4d1d0ea9 : sv_SM := (76, 1, 0, [.inr (some 33)], [], [], [(some (.inl (2147483649, 2147483649, 0, 0, 0)), [], []), (some (.inl (2147483648, 2147483648, 0, 0, 0)), [], [])])
set_option maxRecDepth 1000000 in
theorem sm_76_4d1d0ea9_ok : sv_valid sg sm_76_4d1d0ea9 := sv_main (S := []) (na := 1) (cut := []) (cs := []) (sp := []) (N := 1) sv_nv (by decide +kernel)
-- HungerDays$Draws.draw(I)I (r120, 8)
def sm_172_85401614 : sv_SM := (172, 1, 0, [.inr (some 120), .inl (2147483656, 2147483656, 0, 0, 0)], [], [(120, 0, 0)], [(some (.inl (2147483648, 2147483655, 0, 0, 0)), [], [])])
set_option maxRecDepth 1000000 in
theorem sm_172_85401614_ok : sv_valid sg sm_172_85401614 := sv_main (S := []) (na := 2) (cut := []) (cs := []) (sp := []) (N := 1) sv_nv (by decide +kernel)
-- HungerDays$Draws.draw(I)I (r120, [0,4])
def sm_172_57044ed5 : sv_SM := (172, 1, 0, [.inr (some 120), .inl (2147483648, 2147483652, 0, 0, 0)], [], [(120, 0, 0)], [(some (.inl (2147483648, 2147483651, 0, 0, 0)), [], [])])
set_option maxRecDepth 1000000 in
theorem sm_172_57044ed5_ok : sv_valid sg sm_172_57044ed5 := sv_main (S := []) (na := 2) (cut := []) (cs := []) (sp := []) (N := 1) sv_nv (by decide +kernel)
-- HungerDays$State.isIll(I)Z (r33, 0)
def sm_207_41240649 : sv_SM := (207, 1, 0, [.inr (some 33), .inl (2147483648, 2147483648, 0, 0, 0)], [], [], [(some (.inl (2147483649, 2147483649, 0, 0, 0)), [], []), (some (.inl (2147483648, 2147483648, 0, 0, 0)), [], [])])
set_option maxRecDepth 1000000 in
theorem sm_207_41240649_ok : sv_valid sg sm_207_41240649 := sv_main (S := []) (na := 2) (cut := []) (cs := []) (sp := []) (N := 1) sv_nv (by decide +kernel)
-- HungerDays$State.whyNotEat(II)I (r33, 0, [0,3])
def sm_216_2f1ed4d8 : sv_SM := (216, 2, 0, [.inr (some 33), .inl (2147483648, 2147483648, 0, 0, 0), .inl (2147483648, 2147483651, 0, 0, 0)], [], [], [(some (.inl (2147483648, 2147483651, 0, 0, 0)), [], [])])
set_option maxRecDepth 1000000 in
theorem sm_216_2f1ed4d8_ok : sv_valid sg sm_216_2f1ed4d8 := sv_main (S := [sm_207_41240649]) (na := 3) (cut := []) (cs := []) (sp := []) (N := 1) (sv_cv sm_207_41240649_ok sv_nv) (by decide +kernel)
-- HungerDays$State.takePortion(II)V (r33, 0, [0,3])
def sm_212_2f1ed4d8 : sv_SM := (212, 1, 0, [.inr (some 33), .inl (2147483648, 2147483648, 0, 0, 0), .inl (2147483648, 2147483651, 0, 0, 0)], [], [(34, 0, 0), (36, 0, 0), (37, 0, 3)], [(none, [], [])])
set_option maxRecDepth 1000000 in
theorem sm_212_2f1ed4d8_ok : sv_valid sg sm_212_2f1ed4d8 := sv_main (S := []) (na := 3) (cut := []) (cs := []) (sp := []) (N := 1) sv_nv (by decide +kernel)
-- HungerDays$State.turnHealth(I)V (r33, 0)
def sm_213_41240649 : sv_SM := (213, 1, 0, [.inr (some 33), .inl (2147483648, 2147483648, 0, 0, 0)], [], [(33, 2, 2)], [(none, [], [])])
set_option maxRecDepth 1000000 in
theorem sm_213_41240649_ok : sv_valid sg sm_213_41240649 := sv_main (S := []) (na := 2) (cut := []) (cs := []) (sp := []) (N := 1) sv_nv (by decide +kernel)
-- HungerDays$State.isIll(I)Z (r33, [0,1])
def sm_207_24433d0f : sv_SM := (207, 1, 0, [.inr (some 33), .inl (2147483648, 2147483649, 0, 0, 0)], [], [], [(some (.inl (2147483649, 2147483649, 0, 0, 0)), [], []), (some (.inl (2147483648, 2147483648, 0, 0, 0)), [], [])])
set_option maxRecDepth 1000000 in
theorem sm_207_24433d0f_ok : sv_valid sg sm_207_24433d0f := sv_main (S := []) (na := 2) (cut := []) (cs := []) (sp := []) (N := 1) sv_nv (by decide +kernel)
-- HungerDays$State.whyNotEat(II)I (r33, [0,1], [0,3])
def sm_216_e5cd5a57 : sv_SM := (216, 2, 0, [.inr (some 33), .inl (2147483648, 2147483649, 0, 0, 0), .inl (2147483648, 2147483651, 0, 0, 0)], [], [], [(some (.inl (2147483648, 2147483651, 0, 0, 0)), [], [])])
set_option maxRecDepth 1000000 in
theorem sm_216_e5cd5a57_ok : sv_valid sg sm_216_e5cd5a57 := sv_main (S := [sm_207_24433d0f]) (na := 3) (cut := []) (cs := []) (sp := []) (N := 1) (sv_cv sm_207_24433d0f_ok sv_nv) (by decide +kernel)
-- HungerDays$State.takePortion(II)V (r33, [0,1], [0,3])
def sm_212_e5cd5a57 : sv_SM := (212, 1, 0, [.inr (some 33), .inl (2147483648, 2147483649, 0, 0, 0), .inl (2147483648, 2147483651, 0, 0, 0)], [], [(34, 0, 1), (36, 0, 1), (37, 0, 3)], [(none, [], [])])
set_option maxRecDepth 1000000 in
theorem sm_212_e5cd5a57_ok : sv_valid sg sm_212_e5cd5a57 := sv_main (S := []) (na := 3) (cut := []) (cs := []) (sp := []) (N := 1) sv_nv (by decide +kernel)
-- HungerDays$State.turnHealth(I)V (r33, [0,1])
def sm_213_24433d0f : sv_SM := (213, 1, 0, [.inr (some 33), .inl (2147483648, 2147483649, 0, 0, 0)], [], [(33, 2, 2)], [(none, [], [])])
set_option maxRecDepth 1000000 in
theorem sm_213_24433d0f_ok : sv_valid sg sm_213_24433d0f := sv_main (S := []) (na := 2) (cut := []) (cs := []) (sp := []) (N := 1) sv_nv (by decide +kernel)
-- HungerDays$State.isIll(I)Z (r33, [0,2])
def sm_207_43255365 : sv_SM := (207, 1, 0, [.inr (some 33), .inl (2147483648, 2147483650, 0, 0, 0)], [], [], [(some (.inl (2147483649, 2147483649, 0, 0, 0)), [], []), (some (.inl (2147483648, 2147483648, 0, 0, 0)), [], [])])
set_option maxRecDepth 1000000 in
theorem sm_207_43255365_ok : sv_valid sg sm_207_43255365 := sv_main (S := []) (na := 2) (cut := []) (cs := []) (sp := []) (N := 1) sv_nv (by decide +kernel)
-- HungerDays$State.whyNotEat(II)I (r33, [0,2], [0,3])
def sm_216_b2faf2da : sv_SM := (216, 2, 0, [.inr (some 33), .inl (2147483648, 2147483650, 0, 0, 0), .inl (2147483648, 2147483651, 0, 0, 0)], [], [], [(some (.inl (2147483648, 2147483651, 0, 0, 0)), [], [])])
set_option maxRecDepth 1000000 in
theorem sm_216_b2faf2da_ok : sv_valid sg sm_216_b2faf2da := sv_main (S := [sm_207_43255365]) (na := 3) (cut := []) (cs := []) (sp := []) (N := 1) (sv_cv sm_207_43255365_ok sv_nv) (by decide +kernel)
-- HungerDays$State.takePortion(II)V (r33, [0,2], [0,3])
def sm_212_b2faf2da : sv_SM := (212, 1, 0, [.inr (some 33), .inl (2147483648, 2147483650, 0, 0, 0), .inl (2147483648, 2147483651, 0, 0, 0)], [], [(34, 0, 2), (36, 0, 2), (37, 0, 3)], [(none, [], [])])
set_option maxRecDepth 1000000 in
theorem sm_212_b2faf2da_ok : sv_valid sg sm_212_b2faf2da := sv_main (S := []) (na := 3) (cut := []) (cs := []) (sp := []) (N := 1) sv_nv (by decide +kernel)
-- HungerDays$State.turnHealth(I)V (r33, [0,2])
def sm_213_43255365 : sv_SM := (213, 1, 0, [.inr (some 33), .inl (2147483648, 2147483650, 0, 0, 0)], [], [(33, 2, 2)], [(none, [], [])])
set_option maxRecDepth 1000000 in
theorem sm_213_43255365_ok : sv_valid sg sm_213_43255365 := sv_main (S := []) (na := 2) (cut := []) (cs := []) (sp := []) (N := 1) sv_nv (by decide +kernel)
-- HungerDays$State.isIll(I)Z (r33, [0,3])
def sm_207_26426823 : sv_SM := (207, 1, 0, [.inr (some 33), .inl (2147483648, 2147483651, 0, 0, 0)], [], [], [(some (.inl (2147483649, 2147483649, 0, 0, 0)), [], []), (some (.inl (2147483648, 2147483648, 0, 0, 0)), [], [])])
set_option maxRecDepth 1000000 in
theorem sm_207_26426823_ok : sv_valid sg sm_207_26426823 := sv_main (S := []) (na := 2) (cut := []) (cs := []) (sp := []) (N := 1) sv_nv (by decide +kernel)
-- HungerDays$State.whyNotEat(II)I (r33, [0,3], [0,3])
def sm_216_78297c55 : sv_SM := (216, 2, 0, [.inr (some 33), .inl (2147483648, 2147483651, 0, 0, 0), .inl (2147483648, 2147483651, 0, 0, 0)], [], [], [(some (.inl (2147483648, 2147483651, 0, 0, 0)), [], [])])
set_option maxRecDepth 1000000 in
theorem sm_216_78297c55_ok : sv_valid sg sm_216_78297c55 := sv_main (S := [sm_207_26426823]) (na := 3) (cut := []) (cs := []) (sp := []) (N := 1) (sv_cv sm_207_26426823_ok sv_nv) (by decide +kernel)
-- HungerDays$State.takePortion(II)V (r33, [0,3], [0,3])
def sm_212_78297c55 : sv_SM := (212, 1, 0, [.inr (some 33), .inl (2147483648, 2147483651, 0, 0, 0), .inl (2147483648, 2147483651, 0, 0, 0)], [], [(34, 0, 3), (36, 0, 3), (37, 0, 3)], [(none, [], [])])
set_option maxRecDepth 1000000 in
theorem sm_212_78297c55_ok : sv_valid sg sm_212_78297c55 := sv_main (S := []) (na := 3) (cut := []) (cs := []) (sp := []) (N := 1) sv_nv (by decide +kernel)
-- HungerDays$State.turnHealth(I)V (r33, [0,3])
def sm_213_26426823 : sv_SM := (213, 1, 0, [.inr (some 33), .inl (2147483648, 2147483651, 0, 0, 0)], [], [(33, 2, 2)], [(none, [], [])])
set_option maxRecDepth 1000000 in
theorem sm_213_26426823_ok : sv_valid sg sm_213_26426823 := sv_main (S := []) (na := 2) (cut := []) (cs := []) (sp := []) (N := 1) sv_nv (by decide +kernel)
-- HungerDays$State.isIll(I)Z (r33, [0,4])
def sm_207_89eb25e9 : sv_SM := (207, 1, 0, [.inr (some 33), .inl (2147483648, 2147483652, 0, 0, 0)], [], [], [(some (.inl (2147483649, 2147483649, 0, 0, 0)), [], []), (some (.inl (2147483648, 2147483648, 0, 0, 0)), [], [])])
set_option maxRecDepth 1000000 in
theorem sm_207_89eb25e9_ok : sv_valid sg sm_207_89eb25e9 := sv_main (S := []) (na := 2) (cut := []) (cs := []) (sp := []) (N := 1) sv_nv (by decide +kernel)
-- HungerDays$State.whyNotEat(II)I (r33, [0,4], [0,3])
def sm_216_fc2ce985 : sv_SM := (216, 2, 0, [.inr (some 33), .inl (2147483648, 2147483652, 0, 0, 0), .inl (2147483648, 2147483651, 0, 0, 0)], [], [], [(some (.inl (2147483648, 2147483651, 0, 0, 0)), [], [])])
set_option maxRecDepth 1000000 in
theorem sm_216_fc2ce985_ok : sv_valid sg sm_216_fc2ce985 := sv_main (S := [sm_207_89eb25e9]) (na := 3) (cut := []) (cs := []) (sp := []) (N := 1) (sv_cv sm_207_89eb25e9_ok sv_nv) (by decide +kernel)
-- HungerDays$State.takePortion(II)V (r33, [0,4], [0,3])
def sm_212_fc2ce985 : sv_SM := (212, 1, 0, [.inr (some 33), .inl (2147483648, 2147483652, 0, 0, 0), .inl (2147483648, 2147483651, 0, 0, 0)], [], [(34, 0, 4), (36, 0, 4), (37, 0, 3)], [(none, [], [])])
set_option maxRecDepth 1000000 in
theorem sm_212_fc2ce985_ok : sv_valid sg sm_212_fc2ce985 := sv_main (S := []) (na := 3) (cut := []) (cs := []) (sp := []) (N := 1) sv_nv (by decide +kernel)
-- HungerDays$State.turnHealth(I)V (r33, [0,4])
def sm_213_89eb25e9 : sv_SM := (213, 1, 0, [.inr (some 33), .inl (2147483648, 2147483652, 0, 0, 0)], [], [(33, 2, 2)], [(none, [], [])])
set_option maxRecDepth 1000000 in
theorem sm_213_89eb25e9_ok : sv_valid sg sm_213_89eb25e9 := sv_main (S := []) (na := 2) (cut := []) (cs := []) (sp := []) (N := 1) sv_nv (by decide +kernel)
-- HungerDays$State.whyNotEat(II)I (r33, [0,5], [0,3])
def sm_216_36ff670a : sv_SM := (216, 2, 0, [.inr (some 33), .inl (2147483648, 2147483653, 0, 0, 0), .inl (2147483648, 2147483651, 0, 0, 0)], [], [], [(some (.inl (2147483648, 2147483651, 0, 0, 0)), [], [])])
set_option maxRecDepth 1000000 in
theorem sm_216_36ff670a_ok : sv_valid sg sm_216_36ff670a := sv_main (S := [sm_207_ec8c1eaf]) (na := 3) (cut := []) (cs := []) (sp := []) (N := 1) (sv_cv sm_207_ec8c1eaf_ok sv_nv) (by decide +kernel)
-- HungerDays$State.takePortion(II)V (r33, [0,5], [0,3])
def sm_212_36ff670a : sv_SM := (212, 1, 0, [.inr (some 33), .inl (2147483648, 2147483653, 0, 0, 0), .inl (2147483648, 2147483651, 0, 0, 0)], [], [(34, 0, 5), (36, 0, 5), (37, 0, 3)], [(none, [], [])])
set_option maxRecDepth 1000000 in
theorem sm_212_36ff670a_ok : sv_valid sg sm_212_36ff670a := sv_main (S := []) (na := 3) (cut := []) (cs := []) (sp := []) (N := 1) sv_nv (by decide +kernel)
-- HungerDays$Draws.drawPersons(LHungerDays$State;)V (r120, r33)
def sm_173_e9761150 : sv_SM := (173, 3, 0, [.inr (some 120), .inr (some 33)], [], [(33, 2, 2), (34, 0, 5), (36, 0, 5), (37, 0, 3), (120, 0, 0)], [(none, [], [])])
set_option maxRecDepth 1000000 in
theorem sm_173_e9761150_ok : sv_valid sg sm_173_e9761150 := sv_main (S := [sm_172_85401614, sm_172_57044ed5, sm_216_36ff670a, sm_212_36ff670a, sm_213_ec8c1eaf]) (na := 2) (cut := [2]) (cs := [(2, 1, 1, 5, [some (.inr (some 120)), some (.inr (some 33)), some (.inl (2147483648, 2147483654, 0, 0, 0)), none, none], [], [])]) (sp := []) (N := 2) (sv_cv sm_172_85401614_ok (sv_cv sm_172_57044ed5_ok (sv_cv sm_216_36ff670a_ok (sv_cv sm_212_36ff670a_ok (sv_cv sm_213_ec8c1eaf_ok sv_nv))))) (by decide +kernel)
-- HungerDays$State.isDateOfEarlier(II)Z (r33, [MIN,MAX], 0)
def sm_205_f56cd94e : sv_SM := (205, 1, 0, [.inr (some 33), .inl (0, 4294967295, 0, 0, 0), .inl (2147483648, 2147483648, 0, 0, 0)], [], [], [(some (.inl (2147483648, 2147483648, 0, 0, 0)), [], [])])
set_option maxRecDepth 1000000 in
theorem sm_205_f56cd94e_ok : sv_valid sg sm_205_f56cd94e := sv_main (S := []) (na := 3) (cut := [2]) (cs := [(2, 1, 1, 0, [some (.inr (some 33)), some (.inl (0, 4294967295, 0, 0, 0)), some (.inl (2147483648, 2147483648, 0, 0, 0)), some (.inl (2147483648, 2147483648, 0, 0, 0))], [], [])]) (sp := []) (N := 2) sv_nv (by decide +kernel)
-- HungerDays$State.isDateOfEarlier(II)Z (r33, [MIN,MAX], [0,1])
def sm_205_900be208 : sv_SM := (205, 2, 0, [.inr (some 33), .inl (0, 4294967295, 0, 0, 0), .inl (2147483648, 2147483649, 0, 0, 0)], [], [], [(some (.inl (2147483649, 2147483649, 0, 0, 0)), [.inr (some 33), .inl (0, 4294967295, 0, 0, 0), .inl (2147483649, 2147483649, 0, 0, 0)], []), (some (.inl (2147483648, 2147483648, 0, 0, 0)), [], [])])
set_option maxRecDepth 1000000 in
theorem sm_205_900be208_ok : sv_valid sg sm_205_900be208 := sv_main (S := [sm_201_2d17ef67]) (na := 3) (cut := [2]) (cs := [(2, 1, 1, 7, [some (.inr (some 33)), some (.inl (0, 4294967295, 0, 0, 0)), some (.inl (2147483648, 2147483649, 0, 0, 0)), some (.inl (2147483648, 2147483649, 0, 0, 0))], [], [])]) (sp := []) (N := 2) (sv_cv sm_201_2d17ef67_ok sv_nv) (by decide +kernel)
-- HungerDays$State.isDateOfEarlier(II)Z (r33, [MIN,MAX], [0,2])
def sm_205_f76d8c62 : sv_SM := (205, 2, 0, [.inr (some 33), .inl (0, 4294967295, 0, 0, 0), .inl (2147483648, 2147483650, 0, 0, 0)], [], [], [(some (.inl (2147483649, 2147483649, 0, 0, 0)), [.inr (some 33), .inl (0, 4294967295, 0, 0, 0), .inl (2147483649, 2147483650, 0, 0, 0)], []), (some (.inl (2147483648, 2147483648, 0, 0, 0)), [], [])])
set_option maxRecDepth 1000000 in
theorem sm_205_f76d8c62_ok : sv_valid sg sm_205_f76d8c62 := sv_main (S := [sm_201_2d17ef67]) (na := 3) (cut := [2]) (cs := [(2, 1, 1, 7, [some (.inr (some 33)), some (.inl (0, 4294967295, 0, 0, 0)), some (.inl (2147483648, 2147483650, 0, 0, 0)), some (.inl (2147483648, 2147483650, 0, 0, 0))], [], [])]) (sp := []) (N := 2) (sv_cv sm_201_2d17ef67_ok sv_nv) (by decide +kernel)
-- HungerDays$State.isDateOfEarlier(II)Z (r33, [MIN,MAX], [0,3])
def sm_205_920ab724 : sv_SM := (205, 2, 0, [.inr (some 33), .inl (0, 4294967295, 0, 0, 0), .inl (2147483648, 2147483651, 0, 0, 0)], [], [], [(some (.inl (2147483649, 2147483649, 0, 0, 0)), [.inr (some 33), .inl (0, 4294967295, 0, 0, 0), .inl (2147483649, 2147483651, 0, 0, 0)], []), (some (.inl (2147483648, 2147483648, 0, 0, 0)), [], [])])
set_option maxRecDepth 1000000 in
theorem sm_205_920ab724_ok : sv_valid sg sm_205_920ab724 := sv_main (S := [sm_201_2d17ef67]) (na := 3) (cut := [2]) (cs := [(2, 1, 1, 7, [some (.inr (some 33)), some (.inl (0, 4294967295, 0, 0, 0)), some (.inl (2147483648, 2147483651, 0, 0, 0)), some (.inl (2147483648, 2147483651, 0, 0, 0))], [], [])]) (sp := []) (N := 2) (sv_cv sm_201_2d17ef67_ok sv_nv) (by decide +kernel)
-- HungerDays$State.isDateOfEarlier(II)Z (r33, [MIN,MAX], [0,4])
def sm_205_3da3faee : sv_SM := (205, 2, 0, [.inr (some 33), .inl (0, 4294967295, 0, 0, 0), .inl (2147483648, 2147483652, 0, 0, 0)], [], [], [(some (.inl (2147483649, 2147483649, 0, 0, 0)), [.inr (some 33), .inl (0, 4294967295, 0, 0, 0), .inl (2147483649, 2147483652, 0, 0, 0)], []), (some (.inl (2147483648, 2147483648, 0, 0, 0)), [], [])])
set_option maxRecDepth 1000000 in
theorem sm_205_3da3faee_ok : sv_valid sg sm_205_3da3faee := sv_main (S := [sm_201_2d17ef67]) (na := 3) (cut := [2]) (cs := [(2, 1, 1, 7, [some (.inr (some 33)), some (.inl (0, 4294967295, 0, 0, 0)), some (.inl (2147483648, 2147483652, 0, 0, 0)), some (.inl (2147483648, 2147483652, 0, 0, 0))], [], [])]) (sp := []) (N := 2) (sv_cv sm_201_2d17ef67_ok sv_nv) (by decide +kernel)
-- HungerDays$State.isDateOfEarlier(II)Z (r33, [MIN,MAX], [0,5])
def sm_205_58c4c1a8 : sv_SM := (205, 2, 0, [.inr (some 33), .inl (0, 4294967295, 0, 0, 0), .inl (2147483648, 2147483653, 0, 0, 0)], [], [], [(some (.inl (2147483649, 2147483649, 0, 0, 0)), [.inr (some 33), .inl (0, 4294967295, 0, 0, 0), .inl (2147483649, 2147483653, 0, 0, 0)], []), (some (.inl (2147483648, 2147483648, 0, 0, 0)), [], [])])
set_option maxRecDepth 1000000 in
theorem sm_205_58c4c1a8_ok : sv_valid sg sm_205_58c4c1a8 := sv_main (S := [sm_201_2d17ef67]) (na := 3) (cut := [2]) (cs := [(2, 1, 1, 7, [some (.inr (some 33)), some (.inl (0, 4294967295, 0, 0, 0)), some (.inl (2147483648, 2147483653, 0, 0, 0)), some (.inl (2147483648, 2147483653, 0, 0, 0))], [], [])]) (sp := []) (N := 2) (sv_cv sm_201_2d17ef67_ok sv_nv) (by decide +kernel)
-- HungerDays$State.unlikeDates(I)I (r33, [MIN,MAX])
def sm_214_32847757 : sv_SM := (214, 3, 0, [.inr (some 33), .inl (0, 4294967295, 0, 0, 0)], [], [], [(some (.inl (0, 4294967295, 0, 0, 0)), [], [])])
set_option maxRecDepth 1000000 in
theorem sm_214_32847757_ok : sv_valid sg sm_214_32847757 := sv_main (S := [sm_205_58c4c1a8]) (na := 2) (cut := [4]) (cs := [(4, 1, 1, 7, [some (.inr (some 33)), some (.inl (0, 4294967295, 0, 0, 0)), some (.inl (0, 4294967295, 0, 0, 0)), some (.inl (2147483648, 2147483654, 0, 0, 0))], [], [])]) (sp := []) (N := 2) (sv_cv sm_205_58c4c1a8_ok sv_nv) (by decide +kernel)
-- HungerDays$State.whyNotMeet(I)I (r33, 0)
def sm_217_41240649 : sv_SM := (217, 4, 0, [.inr (some 33), .inl (2147483648, 2147483648, 0, 0, 0)], [], [], [(some (.inl (2147483648, 2147483651, 0, 0, 0)), [], [])])
set_option maxRecDepth 1000000 in
theorem sm_217_41240649_ok : sv_valid sg sm_217_41240649 := sv_main (S := [sm_214_32847757]) (na := 2) (cut := []) (cs := []) (sp := []) (N := 1) (sv_cv sm_214_32847757_ok sv_nv) (by decide +kernel)
-- HungerDays$State.hold(I)V (r33, 0)
def sm_203_41240649 : sv_SM := (203, 1, 0, [.inr (some 33), .inl (2147483648, 2147483648, 0, 0, 0)], [], [(38, 0, 0)], [(none, [], [])])
set_option maxRecDepth 1000000 in
theorem sm_203_41240649_ok : sv_valid sg sm_203_41240649 := sv_main (S := []) (na := 2) (cut := []) (cs := []) (sp := []) (N := 1) sv_nv (by decide +kernel)
-- HungerDays$State.whyNotMeet(I)I (r33, [0,1])
def sm_217_24433d0f : sv_SM := (217, 4, 0, [.inr (some 33), .inl (2147483648, 2147483649, 0, 0, 0)], [], [], [(some (.inl (2147483648, 2147483651, 0, 0, 0)), [], [])])
set_option maxRecDepth 1000000 in
theorem sm_217_24433d0f_ok : sv_valid sg sm_217_24433d0f := sv_main (S := [sm_214_32847757]) (na := 2) (cut := []) (cs := []) (sp := []) (N := 1) (sv_cv sm_214_32847757_ok sv_nv) (by decide +kernel)
-- HungerDays$State.hold(I)V (r33, [0,1])
def sm_203_24433d0f : sv_SM := (203, 1, 0, [.inr (some 33), .inl (2147483648, 2147483649, 0, 0, 0)], [], [(38, 0, 1)], [(none, [], [])])
set_option maxRecDepth 1000000 in
theorem sm_203_24433d0f_ok : sv_valid sg sm_203_24433d0f := sv_main (S := []) (na := 2) (cut := []) (cs := []) (sp := []) (N := 1) sv_nv (by decide +kernel)
-- HungerDays$State.whyNotMeet(I)I (r33, [0,2])
def sm_217_43255365 : sv_SM := (217, 4, 0, [.inr (some 33), .inl (2147483648, 2147483650, 0, 0, 0)], [], [], [(some (.inl (2147483648, 2147483651, 0, 0, 0)), [], [])])
set_option maxRecDepth 1000000 in
theorem sm_217_43255365_ok : sv_valid sg sm_217_43255365 := sv_main (S := [sm_214_32847757]) (na := 2) (cut := []) (cs := []) (sp := []) (N := 1) (sv_cv sm_214_32847757_ok sv_nv) (by decide +kernel)
-- HungerDays$State.hold(I)V (r33, [0,2])
def sm_203_43255365 : sv_SM := (203, 1, 0, [.inr (some 33), .inl (2147483648, 2147483650, 0, 0, 0)], [], [(38, 0, 2)], [(none, [], [])])
set_option maxRecDepth 1000000 in
theorem sm_203_43255365_ok : sv_valid sg sm_203_43255365 := sv_main (S := []) (na := 2) (cut := []) (cs := []) (sp := []) (N := 1) sv_nv (by decide +kernel)
-- HungerDays$State.whyNotMeet(I)I (r33, [0,3])
def sm_217_26426823 : sv_SM := (217, 4, 0, [.inr (some 33), .inl (2147483648, 2147483651, 0, 0, 0)], [], [], [(some (.inl (2147483648, 2147483651, 0, 0, 0)), [], [])])
set_option maxRecDepth 1000000 in
theorem sm_217_26426823_ok : sv_valid sg sm_217_26426823 := sv_main (S := [sm_214_32847757]) (na := 2) (cut := []) (cs := []) (sp := []) (N := 1) (sv_cv sm_214_32847757_ok sv_nv) (by decide +kernel)
-- HungerDays$State.hold(I)V (r33, [0,3])
def sm_203_26426823 : sv_SM := (203, 1, 0, [.inr (some 33), .inl (2147483648, 2147483651, 0, 0, 0)], [], [(38, 0, 3)], [(none, [], [])])
set_option maxRecDepth 1000000 in
theorem sm_203_26426823_ok : sv_valid sg sm_203_26426823 := sv_main (S := []) (na := 2) (cut := []) (cs := []) (sp := []) (N := 1) sv_nv (by decide +kernel)
-- HungerDays$State.whyNotMeet(I)I (r33, [0,4])
def sm_217_89eb25e9 : sv_SM := (217, 4, 0, [.inr (some 33), .inl (2147483648, 2147483652, 0, 0, 0)], [], [], [(some (.inl (2147483648, 2147483651, 0, 0, 0)), [], [])])
set_option maxRecDepth 1000000 in
theorem sm_217_89eb25e9_ok : sv_valid sg sm_217_89eb25e9 := sv_main (S := [sm_214_32847757]) (na := 2) (cut := []) (cs := []) (sp := []) (N := 1) (sv_cv sm_214_32847757_ok sv_nv) (by decide +kernel)
-- HungerDays$State.hold(I)V (r33, [0,4])
def sm_203_89eb25e9 : sv_SM := (203, 1, 0, [.inr (some 33), .inl (2147483648, 2147483652, 0, 0, 0)], [], [(38, 0, 4)], [(none, [], [])])
set_option maxRecDepth 1000000 in
theorem sm_203_89eb25e9_ok : sv_valid sg sm_203_89eb25e9 := sv_main (S := []) (na := 2) (cut := []) (cs := []) (sp := []) (N := 1) sv_nv (by decide +kernel)
-- HungerDays$State.whyNotMeet(I)I (r33, [0,5])
def sm_217_ec8c1eaf : sv_SM := (217, 4, 0, [.inr (some 33), .inl (2147483648, 2147483653, 0, 0, 0)], [], [], [(some (.inl (2147483648, 2147483651, 0, 0, 0)), [], [])])
set_option maxRecDepth 1000000 in
theorem sm_217_ec8c1eaf_ok : sv_valid sg sm_217_ec8c1eaf := sv_main (S := [sm_214_32847757]) (na := 2) (cut := []) (cs := []) (sp := []) (N := 1) (sv_cv sm_214_32847757_ok sv_nv) (by decide +kernel)
-- HungerDays$State.hold(I)V (r33, [0,5])
def sm_203_ec8c1eaf : sv_SM := (203, 1, 0, [.inr (some 33), .inl (2147483648, 2147483653, 0, 0, 0)], [], [(38, 0, 5)], [(none, [], [])])
set_option maxRecDepth 1000000 in
theorem sm_203_ec8c1eaf_ok : sv_valid sg sm_203_ec8c1eaf := sv_main (S := []) (na := 2) (cut := []) (cs := []) (sp := []) (N := 1) sv_nv (by decide +kernel)
-- HungerDays$Draws.holdMeetings(LHungerDays$State;)V (r33)
def sm_174_4d1d0ea9 : sv_SM := (174, 5, 0, [.inr (some 33)], [], [(38, 0, 5)], [(none, [], [])])
set_option maxRecDepth 1000000 in
theorem sm_174_4d1d0ea9_ok : sv_valid sg sm_174_4d1d0ea9 := sv_main (S := [sm_217_ec8c1eaf, sm_203_ec8c1eaf]) (na := 1) (cut := [2]) (cs := [(2, 1, 1, 3, [some (.inr (some 33)), some (.inl (2147483648, 2147483654, 0, 0, 0))], [], [])]) (sp := []) (N := 2) (sv_cv sm_217_ec8c1eaf_ok (sv_cv sm_203_ec8c1eaf_ok sv_nv)) (by decide +kernel)
-- HungerDays$Valley.isWinter(I)Z (r4, [MIN,MAX])
def sm_86_06566991 : sv_SM := (86, 1, 0, [.inr (some 4), .inl (0, 4294967295, 0, 0, 0)], [], [], [(some (.inl (2147483649, 2147483649, 0, 0, 0)), [.inr (some 4), .inl (0, 4294967294, 0, 0, 0)], []), (some (.inl (2147483648, 2147483648, 0, 0, 0)), [], [])])
set_option maxRecDepth 1000000 in
theorem sm_86_06566991_ok : sv_valid sg sm_86_06566991 := sv_main (S := []) (na := 2) (cut := []) (cs := []) (sp := []) (N := 1) sv_nv (by decide +kernel)
-- HungerDays$State.isDue(I)Z (r33, 0)
def sm_206_41240649 : sv_SM := (206, 2, 0, [.inr (some 33), .inl (2147483648, 2147483648, 0, 0, 0)], [], [], [(some (.inl (2147483649, 2147483649, 0, 0, 0)), [], []), (some (.inl (2147483648, 2147483648, 0, 0, 0)), [], [])])
set_option maxRecDepth 1000000 in
theorem sm_206_41240649_ok : sv_valid sg sm_206_41240649 := sv_main (S := [sm_207_ec8c1eaf, sm_201_2d17ef67]) (na := 2) (cut := []) (cs := []) (sp := []) (N := 1) (sv_cv sm_207_ec8c1eaf_ok (sv_cv sm_201_2d17ef67_ok sv_nv)) (by decide +kernel)
-- HungerDays$State.pays(I)Z (r33, 0)
def sm_211_41240649 : sv_SM := (211, 1, 0, [.inr (some 33), .inl (2147483648, 2147483648, 0, 0, 0)], [], [(35, 0, 5), (39, 0, 0)], [(some (.inl (2147483648, 2147483648, 0, 0, 0)), [], []), (some (.inl (2147483649, 2147483649, 0, 0, 0)), [], [])])
set_option maxRecDepth 1000000 in
theorem sm_211_41240649_ok : sv_valid sg sm_211_41240649 := sv_main (S := []) (na := 2) (cut := []) (cs := []) (sp := []) (N := 1) sv_nv (by decide +kernel)
-- HungerDays$State.isDue(I)Z (r33, [0,1])
def sm_206_24433d0f : sv_SM := (206, 2, 0, [.inr (some 33), .inl (2147483648, 2147483649, 0, 0, 0)], [], [], [(some (.inl (2147483649, 2147483649, 0, 0, 0)), [], []), (some (.inl (2147483648, 2147483648, 0, 0, 0)), [], [])])
set_option maxRecDepth 1000000 in
theorem sm_206_24433d0f_ok : sv_valid sg sm_206_24433d0f := sv_main (S := [sm_207_ec8c1eaf, sm_201_2d17ef67]) (na := 2) (cut := []) (cs := []) (sp := []) (N := 1) (sv_cv sm_207_ec8c1eaf_ok (sv_cv sm_201_2d17ef67_ok sv_nv)) (by decide +kernel)
-- HungerDays$State.pays(I)Z (r33, [0,1])
def sm_211_24433d0f : sv_SM := (211, 1, 0, [.inr (some 33), .inl (2147483648, 2147483649, 0, 0, 0)], [], [(35, 0, 5), (39, 0, 1)], [(some (.inl (2147483648, 2147483648, 0, 0, 0)), [], []), (some (.inl (2147483649, 2147483649, 0, 0, 0)), [], [])])
set_option maxRecDepth 1000000 in
theorem sm_211_24433d0f_ok : sv_valid sg sm_211_24433d0f := sv_main (S := []) (na := 2) (cut := []) (cs := []) (sp := []) (N := 1) sv_nv (by decide +kernel)
-- HungerDays$State.isDue(I)Z (r33, [0,2])
def sm_206_43255365 : sv_SM := (206, 2, 0, [.inr (some 33), .inl (2147483648, 2147483650, 0, 0, 0)], [], [], [(some (.inl (2147483649, 2147483649, 0, 0, 0)), [], []), (some (.inl (2147483648, 2147483648, 0, 0, 0)), [], [])])
set_option maxRecDepth 1000000 in
theorem sm_206_43255365_ok : sv_valid sg sm_206_43255365 := sv_main (S := [sm_207_ec8c1eaf, sm_201_2d17ef67]) (na := 2) (cut := []) (cs := []) (sp := []) (N := 1) (sv_cv sm_207_ec8c1eaf_ok (sv_cv sm_201_2d17ef67_ok sv_nv)) (by decide +kernel)
-- HungerDays$State.pays(I)Z (r33, [0,2])
def sm_211_43255365 : sv_SM := (211, 1, 0, [.inr (some 33), .inl (2147483648, 2147483650, 0, 0, 0)], [], [(35, 0, 5), (39, 0, 2)], [(some (.inl (2147483648, 2147483648, 0, 0, 0)), [], []), (some (.inl (2147483649, 2147483649, 0, 0, 0)), [], [])])
set_option maxRecDepth 1000000 in
theorem sm_211_43255365_ok : sv_valid sg sm_211_43255365 := sv_main (S := []) (na := 2) (cut := []) (cs := []) (sp := []) (N := 1) sv_nv (by decide +kernel)
-- HungerDays$State.isDue(I)Z (r33, [0,3])
def sm_206_26426823 : sv_SM := (206, 2, 0, [.inr (some 33), .inl (2147483648, 2147483651, 0, 0, 0)], [], [], [(some (.inl (2147483649, 2147483649, 0, 0, 0)), [], []), (some (.inl (2147483648, 2147483648, 0, 0, 0)), [], [])])
set_option maxRecDepth 1000000 in
theorem sm_206_26426823_ok : sv_valid sg sm_206_26426823 := sv_main (S := [sm_207_ec8c1eaf, sm_201_2d17ef67]) (na := 2) (cut := []) (cs := []) (sp := []) (N := 1) (sv_cv sm_207_ec8c1eaf_ok (sv_cv sm_201_2d17ef67_ok sv_nv)) (by decide +kernel)
-- HungerDays$State.pays(I)Z (r33, [0,3])
def sm_211_26426823 : sv_SM := (211, 1, 0, [.inr (some 33), .inl (2147483648, 2147483651, 0, 0, 0)], [], [(35, 0, 5), (39, 0, 3)], [(some (.inl (2147483648, 2147483648, 0, 0, 0)), [], []), (some (.inl (2147483649, 2147483649, 0, 0, 0)), [], [])])
set_option maxRecDepth 1000000 in
theorem sm_211_26426823_ok : sv_valid sg sm_211_26426823 := sv_main (S := []) (na := 2) (cut := []) (cs := []) (sp := []) (N := 1) sv_nv (by decide +kernel)
-- HungerDays$State.isDue(I)Z (r33, [0,4])
def sm_206_89eb25e9 : sv_SM := (206, 2, 0, [.inr (some 33), .inl (2147483648, 2147483652, 0, 0, 0)], [], [], [(some (.inl (2147483649, 2147483649, 0, 0, 0)), [], []), (some (.inl (2147483648, 2147483648, 0, 0, 0)), [], [])])
set_option maxRecDepth 1000000 in
theorem sm_206_89eb25e9_ok : sv_valid sg sm_206_89eb25e9 := sv_main (S := [sm_207_ec8c1eaf, sm_201_2d17ef67]) (na := 2) (cut := []) (cs := []) (sp := []) (N := 1) (sv_cv sm_207_ec8c1eaf_ok (sv_cv sm_201_2d17ef67_ok sv_nv)) (by decide +kernel)
-- HungerDays$State.pays(I)Z (r33, [0,4])
def sm_211_89eb25e9 : sv_SM := (211, 1, 0, [.inr (some 33), .inl (2147483648, 2147483652, 0, 0, 0)], [], [(35, 0, 5), (39, 0, 4)], [(some (.inl (2147483648, 2147483648, 0, 0, 0)), [], []), (some (.inl (2147483649, 2147483649, 0, 0, 0)), [], [])])
set_option maxRecDepth 1000000 in
theorem sm_211_89eb25e9_ok : sv_valid sg sm_211_89eb25e9 := sv_main (S := []) (na := 2) (cut := []) (cs := []) (sp := []) (N := 1) sv_nv (by decide +kernel)
-- HungerDays$State.isDue(I)Z (r33, [0,5])
def sm_206_ec8c1eaf : sv_SM := (206, 2, 0, [.inr (some 33), .inl (2147483648, 2147483653, 0, 0, 0)], [], [], [(some (.inl (2147483649, 2147483649, 0, 0, 0)), [], []), (some (.inl (2147483648, 2147483648, 0, 0, 0)), [], [])])
set_option maxRecDepth 1000000 in
theorem sm_206_ec8c1eaf_ok : sv_valid sg sm_206_ec8c1eaf := sv_main (S := [sm_207_ec8c1eaf, sm_201_2d17ef67]) (na := 2) (cut := []) (cs := []) (sp := []) (N := 1) (sv_cv sm_207_ec8c1eaf_ok (sv_cv sm_201_2d17ef67_ok sv_nv)) (by decide +kernel)
-- HungerDays$State.pays(I)Z (r33, [0,5])
def sm_211_ec8c1eaf : sv_SM := (211, 1, 0, [.inr (some 33), .inl (2147483648, 2147483653, 0, 0, 0)], [], [(35, 0, 5), (39, 0, 5)], [(some (.inl (2147483648, 2147483648, 0, 0, 0)), [], []), (some (.inl (2147483649, 2147483649, 0, 0, 0)), [], [])])
set_option maxRecDepth 1000000 in
theorem sm_211_ec8c1eaf_ok : sv_valid sg sm_211_ec8c1eaf := sv_main (S := []) (na := 2) (cut := []) (cs := []) (sp := []) (N := 1) sv_nv (by decide +kernel)
-- HungerDays$State.isDue(I)Z (r33, [0,6])
def sm_206_0dc8b83c : sv_SM := (206, 2, 0, [.inr (some 33), .inl (2147483648, 2147483654, 0, 0, 0)], [], [], [(some (.inl (2147483649, 2147483649, 0, 0, 0)), [], []), (some (.inl (2147483648, 2147483648, 0, 0, 0)), [], [])])
set_option maxRecDepth 1000000 in
theorem sm_206_0dc8b83c_ok : sv_valid sg sm_206_0dc8b83c := sv_main (S := [sm_207_ec8c1eaf, sm_201_2d17ef67]) (na := 2) (cut := []) (cs := []) (sp := []) (N := 1) (sv_cv sm_207_ec8c1eaf_ok (sv_cv sm_201_2d17ef67_ok sv_nv)) (by decide +kernel)
-- HungerDays$State.pays(I)Z (r33, [0,6])
def sm_211_0dc8b83c : sv_SM := (211, 1, 0, [.inr (some 33), .inl (2147483648, 2147483654, 0, 0, 0)], [], [(35, 0, 5), (39, 0, 6)], [(some (.inl (2147483648, 2147483648, 0, 0, 0)), [], []), (some (.inl (2147483649, 2147483649, 0, 0, 0)), [], [])])
set_option maxRecDepth 1000000 in
theorem sm_211_0dc8b83c_ok : sv_valid sg sm_211_0dc8b83c := sv_main (S := []) (na := 2) (cut := []) (cs := []) (sp := []) (N := 1) sv_nv (by decide +kernel)
-- HungerDays$State.isDue(I)Z (r33, [0,7])
def sm_206_68af837a : sv_SM := (206, 2, 0, [.inr (some 33), .inl (2147483648, 2147483655, 0, 0, 0)], [], [], [(some (.inl (2147483649, 2147483649, 0, 0, 0)), [], []), (some (.inl (2147483648, 2147483648, 0, 0, 0)), [], [])])
set_option maxRecDepth 1000000 in
theorem sm_206_68af837a_ok : sv_valid sg sm_206_68af837a := sv_main (S := [sm_207_ec8c1eaf, sm_201_2d17ef67]) (na := 2) (cut := []) (cs := []) (sp := []) (N := 1) (sv_cv sm_207_ec8c1eaf_ok (sv_cv sm_201_2d17ef67_ok sv_nv)) (by decide +kernel)
-- HungerDays$State.pays(I)Z (r33, [0,7])
def sm_211_68af837a : sv_SM := (211, 1, 0, [.inr (some 33), .inl (2147483648, 2147483655, 0, 0, 0)], [], [(35, 0, 5), (39, 0, 7)], [(some (.inl (2147483648, 2147483648, 0, 0, 0)), [], []), (some (.inl (2147483649, 2147483649, 0, 0, 0)), [], [])])
set_option maxRecDepth 1000000 in
theorem sm_211_68af837a_ok : sv_valid sg sm_211_68af837a := sv_main (S := []) (na := 2) (cut := []) (cs := []) (sp := []) (N := 1) sv_nv (by decide +kernel)
-- HungerDays$State.isDue(I)Z (r33, [0,8])
def sm_206_c706ceb0 : sv_SM := (206, 2, 0, [.inr (some 33), .inl (2147483648, 2147483656, 0, 0, 0)], [], [], [(some (.inl (2147483649, 2147483649, 0, 0, 0)), [], []), (some (.inl (2147483648, 2147483648, 0, 0, 0)), [], [])])
set_option maxRecDepth 1000000 in
theorem sm_206_c706ceb0_ok : sv_valid sg sm_206_c706ceb0 := sv_main (S := [sm_207_ec8c1eaf, sm_201_2d17ef67]) (na := 2) (cut := []) (cs := []) (sp := []) (N := 1) (sv_cv sm_207_ec8c1eaf_ok (sv_cv sm_201_2d17ef67_ok sv_nv)) (by decide +kernel)
-- HungerDays$State.pays(I)Z (r33, [0,8])
def sm_211_c706ceb0 : sv_SM := (211, 1, 0, [.inr (some 33), .inl (2147483648, 2147483656, 0, 0, 0)], [], [(35, 0, 5), (39, 0, 8)], [(some (.inl (2147483648, 2147483648, 0, 0, 0)), [], []), (some (.inl (2147483649, 2147483649, 0, 0, 0)), [], [])])
set_option maxRecDepth 1000000 in
theorem sm_211_c706ceb0_ok : sv_valid sg sm_211_c706ceb0 := sv_main (S := []) (na := 2) (cut := []) (cs := []) (sp := []) (N := 1) sv_nv (by decide +kernel)
-- HungerDays$State.isDue(I)Z (r33, [0,9])
def sm_206_a261f5f6 : sv_SM := (206, 2, 0, [.inr (some 33), .inl (2147483648, 2147483657, 0, 0, 0)], [], [], [(some (.inl (2147483649, 2147483649, 0, 0, 0)), [], []), (some (.inl (2147483648, 2147483648, 0, 0, 0)), [], [])])
set_option maxRecDepth 1000000 in
theorem sm_206_a261f5f6_ok : sv_valid sg sm_206_a261f5f6 := sv_main (S := [sm_207_ec8c1eaf, sm_201_2d17ef67]) (na := 2) (cut := []) (cs := []) (sp := []) (N := 1) (sv_cv sm_207_ec8c1eaf_ok (sv_cv sm_201_2d17ef67_ok sv_nv)) (by decide +kernel)
-- HungerDays$State.pays(I)Z (r33, [0,9])
def sm_211_a261f5f6 : sv_SM := (211, 1, 0, [.inr (some 33), .inl (2147483648, 2147483657, 0, 0, 0)], [], [(35, 0, 5), (39, 0, 9)], [(some (.inl (2147483648, 2147483648, 0, 0, 0)), [], []), (some (.inl (2147483649, 2147483649, 0, 0, 0)), [], [])])
set_option maxRecDepth 1000000 in
theorem sm_211_a261f5f6_ok : sv_valid sg sm_211_a261f5f6 := sv_main (S := []) (na := 2) (cut := []) (cs := []) (sp := []) (N := 1) sv_nv (by decide +kernel)
-- HungerDays$State.passHour()V (r33)
def sm_78_4d1d0ea9 : sv_SM := (78, 3, 0, [.inr (some 33)], [], [(33, 1, 1), (33, 3, 3), (34, 0, 5), (35, 0, 5), (39, 0, 9)], [(none, [], [])])
set_option maxRecDepth 1000000 in
theorem sm_78_4d1d0ea9_ok : sv_valid sg sm_78_4d1d0ea9 := sv_main (S := [sm_86_06566991, sm_207_ec8c1eaf, sm_206_a261f5f6, sm_211_a261f5f6]) (na := 1) (cut := [22, 81]) (cs := [(22, 1, 1, 5, [some (.inr (some 33)), some (.inl (2147483649, 2147483650, 0, 0, 0)), some (.inl (2147483648, 2147483654, 0, 0, 0)), none], [], []), (81, 2, 2, 7, [some (.inr (some 33)), some (.inl (2147483649, 2147483650, 0, 0, 0)), some (.inl (2147483648, 2147483649, 0, 0, 0)), some (.inl (2147483648, 2147483658, 0, 0, 0))], [], [])]) (sp := []) (N := 3) (sv_cv sm_86_06566991_ok (sv_cv sm_207_ec8c1eaf_ok (sv_cv sm_206_a261f5f6_ok (sv_cv sm_211_a261f5f6_ok sv_nv)))) (by decide +kernel)
-- HungerDays$Draws.passHours(LHungerDays$State;II)I (r120, r33, [1,60], [MIN,MAX])
def sm_175_e8df20ce : sv_SM := (175, 6, 0, [.inr (some 120), .inr (some 33), .inl (2147483649, 2147483708, 0, 0, 0), .inl (0, 4294967295, 0, 0, 0)], [], [(33, 1, 3), (34, 0, 5), (35, 0, 5), (36, 0, 5), (37, 0, 3), (38, 0, 5), (39, 0, 9), (120, 0, 0)], [(some (.inl (2147483648, 2147483708, 0, 0, 0)), [], [])])
set_option maxRecDepth 1000000 in
theorem sm_175_e8df20ce_ok : sv_valid sg sm_175_e8df20ce := sv_main (S := [sm_76_4d1d0ea9, sm_173_e9761150, sm_174_4d1d0ea9, sm_78_4d1d0ea9]) (na := 4) (cut := [8]) (cs := [(8, 1, 1, 9, [some (.inr (some 120)), some (.inr (some 33)), some (.inl (2147483649, 2147483708, 0, 0, 0)), some (.inl (0, 4294967295, 0, 0, 0)), some (.inl (2147483648, 2147483708, 0, 0, 0))], [], [])]) (sp := []) (N := 2) (sv_cv sm_76_4d1d0ea9_ok (sv_cv sm_173_e9761150_ok (sv_cv sm_174_4d1d0ea9_ok (sv_cv sm_78_4d1d0ea9_ok sv_nv)))) (by decide +kernel)
-- HungerDays.drawn(II)I (r0, [MIN,MAX], [MIN,MAX])
def sm_8_96cac3f7 : sv_SM := (8, 7, 0, [.inr (some 0), .inl (0, 4294967295, 0, 0, 0), .inl (0, 4294967295, 0, 0, 0)], [], [(33, 1, 3), (34, 0, 5), (35, 0, 5), (36, 0, 5), (37, 0, 3), (38, 0, 5), (39, 0, 9), (47, 1, 2), (49, 1, 3), (50, 0, 15), (51, 0, 15), (52, 0, 15), (53, 0, 15), (54, 0, 15), (55, 0, 15), (56, 1, 3), (57, 0, 15), (58, 0, 15), (59, 0, 15), (60, 0, 15), (61, 0, 15), (62, 0, 15), (63, 1, 3), (64, 0, 15), (65, 0, 15), (66, 0, 15), (67, 0, 15), (68, 0, 15), (69, 0, 15), (70, 1, 3), (71, 0, 15), (72, 0, 15), (73, 0, 15), (74, 0, 15), (75, 0, 15), (76, 0, 15), (77, 1, 3), (78, 0, 15), (79, 0, 15), (80, 0, 15), (81, 0, 15), (82, 0, 15), (83, 0, 15), (84, 1, 3), (85, 0, 15), (86, 0, 15), (87, 0, 15), (88, 0, 15), (89, 0, 15), (90, 0, 15), (91, 1, 3), (92, 0, 15), (93, 0, 15), (94, 0, 15), (95, 0, 15), (96, 0, 15), (97, 0, 15), (98, 1, 3), (99, 0, 15), (100, 0, 15), (101, 0, 15), (102, 0, 15), (103, 0, 15), (104, 0, 15), (120, 0, 0)], [(some (.inl (2147483647, 2147483647, 0, 0, 0)), [], []), (some (.inl (2147483648, 2147483708, 0, 0, 0)), [.inr (some 0), .inl (2147483649, 2147483708, 0, 0, 0)], [])])
set_option maxRecDepth 1000000 in
theorem sm_8_96cac3f7_ok : sv_valid sg sm_8_96cac3f7 := sv_main (S := [sm_76_4d1d0ea9, sm_55_a0326ad6, sm_175_e8df20ce]) (na := 3) (cut := []) (cs := []) (sp := []) (N := 1) (sv_cv sm_76_4d1d0ea9_ok (sv_cv sm_55_a0326ad6_ok (sv_cv sm_175_e8df20ce_ok sv_nv))) (by decide +kernel)
-- HungerDays.isFood(I)Z (r0, [MIN,MAX])
def sm_20_ef2370ea : sv_SM := (20, 1, 0, [.inr (some 0), .inl (0, 4294967295, 0, 0, 0)], [], [], [(some (.inl (2147483649, 2147483649, 0, 0, 0)), [.inr (some 0), .inl (2147483648, 2147483651, 0, 0, 0)], []), (some (.inl (2147483648, 2147483648, 0, 0, 0)), [], [])])
set_option maxRecDepth 1000000 in
theorem sm_20_ef2370ea_ok : sv_valid sg sm_20_ef2370ea := sv_main (S := []) (na := 2) (cut := []) (cs := []) (sp := []) (N := 1) sv_nv (by decide +kernel)
-- HungerDays.eat(II)I (r0, [MIN,MAX], [MIN,MAX])
def sm_9_96cac3f7 : sv_SM := (9, 3, 0, [.inr (some 0), .inl (0, 4294967295, 0, 0, 0), .inl (0, 4294967295, 0, 0, 0)], [], [(34, 0, 5), (36, 0, 5), (37, 0, 3), (47, 1, 2), (49, 1, 3), (50, 0, 15), (51, 0, 15), (52, 0, 15), (53, 0, 15), (54, 0, 15), (55, 0, 15), (56, 1, 3), (57, 0, 15), (58, 0, 15), (59, 0, 15), (60, 0, 15), (61, 0, 15), (62, 0, 15), (63, 1, 3), (64, 0, 15), (65, 0, 15), (66, 0, 15), (67, 0, 15), (68, 0, 15), (69, 0, 15), (70, 1, 3), (71, 0, 15), (72, 0, 15), (73, 0, 15), (74, 0, 15), (75, 0, 15), (76, 0, 15), (77, 1, 3), (78, 0, 15), (79, 0, 15), (80, 0, 15), (81, 0, 15), (82, 0, 15), (83, 0, 15), (84, 1, 3), (85, 0, 15), (86, 0, 15), (87, 0, 15), (88, 0, 15), (89, 0, 15), (90, 0, 15), (91, 1, 3), (92, 0, 15), (93, 0, 15), (94, 0, 15), (95, 0, 15), (96, 0, 15), (97, 0, 15), (98, 1, 3), (99, 0, 15), (100, 0, 15), (101, 0, 15), (102, 0, 15), (103, 0, 15), (104, 0, 15)], [(some (.inl (2147483647, 2147483647, 0, 0, 0)), [], []), (some (.inl (2147483648, 2147483651, 0, 0, 0)), [.inr (some 0), .inl (2147483648, 2147483653, 0, 0, 0), .inl (2147483648, 2147483651, 0, 0, 0)], [])])
set_option maxRecDepth 1000000 in
theorem sm_9_96cac3f7_ok : sv_valid sg sm_9_96cac3f7 := sv_main (S := [sm_23_ef2370ea, sm_20_ef2370ea, sm_216_36ff670a, sm_55_a0326ad6, sm_212_36ff670a]) (na := 3) (cut := []) (cs := []) (sp := []) (N := 1) (sv_cv sm_23_ef2370ea_ok (sv_cv sm_20_ef2370ea_ok (sv_cv sm_216_36ff670a_ok (sv_cv sm_55_a0326ad6_ok (sv_cv sm_212_36ff670a_ok sv_nv))))) (by decide +kernel)
-- HungerDays.end(I)Z (r0, [MIN,MAX])
def sm_10_ef2370ea : sv_SM := (10, 1, 0, [.inr (some 0), .inl (0, 4294967295, 0, 0, 0)], [], [(0, 1, 1)], [(some (.inl (2147483648, 2147483648, 0, 0, 0)), [], []), (some (.inl (2147483649, 2147483649, 0, 0, 0)), [.inr (some 0), .inl (2147483648, 2147484588, 0, 0, 0)], [])])
set_option maxRecDepth 1000000 in
theorem sm_10_ef2370ea_ok : sv_valid sg sm_10_ef2370ea := sv_main (S := []) (na := 2) (cut := []) (cs := []) (sp := []) (N := 1) sv_nv (by decide +kernel)
-- HungerDays.fault()I (r0)
def sm_11_19eb1342 : sv_SM := (11, 1, 0, [.inr (some 0)], [], [], [(some (.inl (0, 4294967295, 0, 0, 0)), [], [])])
set_option maxRecDepth 1000000 in
theorem sm_11_19eb1342_ok : sv_valid sg sm_11_19eb1342 := sv_main (S := []) (na := 1) (cut := []) (cs := []) (sp := []) (N := 1) sv_nv (by decide +kernel)
-- HungerDays.feast()I (r0)
def sm_12_19eb1342 : sv_SM := (12, 1, 0, [.inr (some 0)], [], [], [(some (.inl (0, 4294967295, 0, 0, 0)), [], [])])
set_option maxRecDepth 1000000 in
theorem sm_12_19eb1342_ok : sv_valid sg sm_12_19eb1342 := sv_main (S := []) (na := 1) (cut := []) (cs := []) (sp := []) (N := 1) sv_nv (by decide +kernel)
-- HungerDays.food(II)I (r0, [MIN,MAX], [MIN,MAX])
def sm_14_96cac3f7 : sv_SM := (14, 2, 0, [.inr (some 0), .inl (0, 4294967295, 0, 0, 0), .inl (0, 4294967295, 0, 0, 0)], [], [], [(some (.inl (2147483647, 2147483647, 0, 0, 0)), [], []), (some (.inl (0, 4294967295, 0, 0, 0)), [.inr (some 0), .inl (2147483648, 2147483651, 0, 0, 0), .inl (2147483648, 2147483649, 0, 0, 0)], [])])
set_option maxRecDepth 1000000 in
theorem sm_14_96cac3f7_ok : sv_valid sg sm_14_96cac3f7 := sv_main (S := [sm_20_ef2370ea]) (na := 3) (cut := []) (cs := []) (sp := []) (N := 1) (sv_cv sm_20_ef2370ea_ok sv_nv) (by decide +kernel)
-- HungerDays$State.passHours(I)I (r33, [1,60])
def sm_79_b52f6398 : sv_SM := (79, 4, 0, [.inr (some 33), .inl (2147483649, 2147483708, 0, 0, 0)], [], [(33, 1, 1), (33, 3, 3), (34, 0, 5), (35, 0, 5), (39, 0, 9)], [(some (.inl (2147483648, 2147483708, 0, 0, 0)), [], [])])
set_option maxRecDepth 1000000 in
theorem sm_79_b52f6398_ok : sv_valid sg sm_79_b52f6398 := sv_main (S := [sm_76_4d1d0ea9, sm_78_4d1d0ea9]) (na := 2) (cut := [2]) (cs := [(2, 1, 1, 5, [some (.inr (some 33)), some (.inl (2147483649, 2147483708, 0, 0, 0)), some (.inl (2147483648, 2147483708, 0, 0, 0))], [], [])]) (sp := []) (N := 2) (sv_cv sm_76_4d1d0ea9_ok (sv_cv sm_78_4d1d0ea9_ok sv_nv)) (by decide +kernel)
-- HungerDays.hours(I)I (r0, [MIN,MAX])
def sm_15_ef2370ea : sv_SM := (15, 5, 0, [.inr (some 0), .inl (0, 4294967295, 0, 0, 0)], [], [(33, 1, 1), (33, 3, 3), (34, 0, 5), (35, 0, 5), (39, 0, 9), (47, 1, 2), (49, 1, 3), (50, 0, 15), (51, 0, 15), (52, 0, 15), (53, 0, 15), (54, 0, 15), (55, 0, 15), (56, 1, 3), (57, 0, 15), (58, 0, 15), (59, 0, 15), (60, 0, 15), (61, 0, 15), (62, 0, 15), (63, 1, 3), (64, 0, 15), (65, 0, 15), (66, 0, 15), (67, 0, 15), (68, 0, 15), (69, 0, 15), (70, 1, 3), (71, 0, 15), (72, 0, 15), (73, 0, 15), (74, 0, 15), (75, 0, 15), (76, 0, 15), (77, 1, 3), (78, 0, 15), (79, 0, 15), (80, 0, 15), (81, 0, 15), (82, 0, 15), (83, 0, 15), (84, 1, 3), (85, 0, 15), (86, 0, 15), (87, 0, 15), (88, 0, 15), (89, 0, 15), (90, 0, 15), (91, 1, 3), (92, 0, 15), (93, 0, 15), (94, 0, 15), (95, 0, 15), (96, 0, 15), (97, 0, 15), (98, 1, 3), (99, 0, 15), (100, 0, 15), (101, 0, 15), (102, 0, 15), (103, 0, 15), (104, 0, 15)], [(some (.inl (2147483647, 2147483647, 0, 0, 0)), [], []), (some (.inl (2147483648, 2147483708, 0, 0, 0)), [.inr (some 0), .inl (2147483649, 2147483708, 0, 0, 0)], [])])
set_option maxRecDepth 1000000 in
theorem sm_15_ef2370ea_ok : sv_valid sg sm_15_ef2370ea := sv_main (S := [sm_76_4d1d0ea9, sm_55_a0326ad6, sm_79_b52f6398]) (na := 2) (cut := []) (cs := []) (sp := []) (N := 1) (sv_cv sm_76_4d1d0ea9_ok (sv_cv sm_55_a0326ad6_ok (sv_cv sm_79_b52f6398_ok sv_nv))) (by decide +kernel)
-- HungerDays.isImage(I)Z ([MIN,MAX])
def sm_21_94ac37e7 : sv_SM := (21, 1, 0, [.inl (0, 4294967295, 0, 0, 0)], [], [], [(some (.inl (2147483649, 2147483649, 0, 0, 0)), [.inl (2147483648, 2147483649, 0, 0, 0)], []), (some (.inl (2147483648, 2147483648, 0, 0, 0)), [], [])])
set_option maxRecDepth 1000000 in
theorem sm_21_94ac37e7_ok : sv_valid sg sm_21_94ac37e7 := sv_main (S := []) (na := 1) (cut := []) (cs := []) (sp := []) (N := 1) sv_nv (by decide +kernel)
-- HungerDays$Valley.copyFrom(LHungerDays$Valley;)V (r158, r4)
def sm_85_53c2c390 : sv_SM := (85, 1, 0, [.inr (some 158), .inr (some 4)], [], [(158, 0, 6), (159, 0, 15), (160, 0, 15), (161, 0, 15), (162, 0, 15), (163, 0, 15), (164, 0, 15), (165, 0, 15), (166, 0, 15), (167, 0, 15), (168, 0, 15), (169, 0, 15), (170, 0, 15), (171, 0, 15)], [(none, [], [])])
set_option maxRecDepth 1000000 in
theorem sm_85_53c2c390_ok : sv_valid sg sm_85_53c2c390 := sv_main (S := []) (na := 2) (cut := []) (cs := []) (sp := []) (N := 1) sv_nv (by decide +kernel)
-- HungerDays$State.copyFrom(LHungerDays$State;)V (r172, r33)
def sm_72_5c099397 : sv_SM := (72, 1, 0, [.inr (some 172), .inr (some 33)], [], [(172, 1, 3), (173, 0, 15), (174, 0, 15), (175, 0, 15), (176, 0, 15), (177, 0, 15), (178, 0, 15)], [(none, [], [])])
set_option maxRecDepth 1000000 in
theorem sm_72_5c099397_ok : sv_valid sg sm_72_5c099397 := sv_main (S := []) (na := 2) (cut := []) (cs := []) (sp := []) (N := 1) sv_nv (by decide +kernel)
-- HungerDays$Sentence.copyFrom(LHungerDays$Sentence;)V (r179, r106)
def sm_65_dcb6a960 : sv_SM := (65, 1, 0, [.inr (some 179), .inr (some 106)], [], [(179, 0, 1), (180, 0, 47), (181, 0, 47), (182, 0, 47)], [(none, [], [])])
set_option maxRecDepth 1000000 in
theorem sm_65_dcb6a960_ok : sv_valid sg sm_65_dcb6a960 := sv_main (S := []) (na := 2) (cut := []) (cs := []) (sp := []) (N := 1) sv_nv (by decide +kernel)
-- HungerDays$Valley.copyFrom(LHungerDays$Valley;)V (r131, r4)
def sm_85_9b1b13f8 : sv_SM := (85, 1, 0, [.inr (some 131), .inr (some 4)], [], [(131, 0, 6), (132, 0, 15), (133, 0, 15), (134, 0, 15), (135, 0, 15), (136, 0, 15), (137, 0, 15), (138, 0, 15), (139, 0, 15), (140, 0, 15), (141, 0, 15), (142, 0, 15), (143, 0, 15), (144, 0, 15)], [(none, [], [])])
set_option maxRecDepth 1000000 in
theorem sm_85_9b1b13f8_ok : sv_valid sg sm_85_9b1b13f8 := sv_main (S := []) (na := 2) (cut := []) (cs := []) (sp := []) (N := 1) sv_nv (by decide +kernel)
-- HungerDays$State.copyFrom(LHungerDays$State;)V (r145, r33)
def sm_72_4f3594ea : sv_SM := (72, 1, 0, [.inr (some 145), .inr (some 33)], [], [(145, 1, 3), (146, 0, 15), (147, 0, 15), (148, 0, 15), (149, 0, 15), (150, 0, 15), (151, 0, 15)], [(none, [], [])])
set_option maxRecDepth 1000000 in
theorem sm_72_4f3594ea_ok : sv_valid sg sm_72_4f3594ea := sv_main (S := []) (na := 2) (cut := []) (cs := []) (sp := []) (N := 1) sv_nv (by decide +kernel)
-- HungerDays$Sentence.copyFrom(LHungerDays$Sentence;)V (r152, r106)
def sm_65_73d11f74 : sv_SM := (65, 1, 0, [.inr (some 152), .inr (some 106)], [], [(152, 0, 1), (153, 0, 47), (154, 0, 47), (155, 0, 47)], [(none, [], [])])
set_option maxRecDepth 1000000 in
theorem sm_65_73d11f74_ok : sv_valid sg sm_65_73d11f74 := sv_main (S := []) (na := 2) (cut := []) (cs := []) (sp := []) (N := 1) sv_nv (by decide +kernel)
-- HungerDays.image(I)Z (r0, [MIN,MAX])
def sm_17_ef2370ea : sv_SM := (17, 2, 0, [.inr (some 0), .inl (0, 4294967295, 0, 0, 0)], [], [(130, 0, 0), (131, 0, 6), (132, 0, 15), (133, 0, 15), (134, 0, 15), (135, 0, 15), (136, 0, 15), (137, 0, 15), (138, 0, 15), (139, 0, 15), (140, 0, 15), (141, 0, 15), (142, 0, 15), (143, 0, 15), (144, 0, 15), (145, 1, 3), (146, 0, 15), (147, 0, 15), (148, 0, 15), (149, 0, 15), (150, 0, 15), (151, 0, 15), (152, 0, 1), (153, 0, 47), (154, 0, 47), (155, 0, 47), (157, 0, 0), (158, 0, 6), (159, 0, 15), (160, 0, 15), (161, 0, 15), (162, 0, 15), (163, 0, 15), (164, 0, 15), (165, 0, 15), (166, 0, 15), (167, 0, 15), (168, 0, 15), (169, 0, 15), (170, 0, 15), (171, 0, 15), (172, 1, 3), (173, 0, 15), (174, 0, 15), (175, 0, 15), (176, 0, 15), (177, 0, 15), (178, 0, 15), (179, 0, 1), (180, 0, 47), (181, 0, 47), (182, 0, 47)], [(some (.inl (2147483648, 2147483648, 0, 0, 0)), [], []), (some (.inl (2147483649, 2147483649, 0, 0, 0)), [.inr (some 0), .inl (2147483648, 2147483649, 0, 0, 0)], [])])
set_option maxRecDepth 1000000 in
theorem sm_17_ef2370ea_ok : sv_valid sg sm_17_ef2370ea := sv_main (S := [sm_21_94ac37e7, sm_85_53c2c390, sm_72_5c099397, sm_65_dcb6a960, sm_85_9b1b13f8, sm_72_4f3594ea, sm_65_73d11f74]) (na := 2) (cut := []) (cs := []) (sp := []) (N := 1) (sv_cv sm_21_94ac37e7_ok (sv_cv sm_85_53c2c390_ok (sv_cv sm_72_5c099397_ok (sv_cv sm_65_dcb6a960_ok (sv_cv sm_85_9b1b13f8_ok (sv_cv sm_72_4f3594ea_ok (sv_cv sm_65_73d11f74_ok sv_nv))))))) (by decide +kernel)
-- HungerDays.isDate(I)Z ([1,MAX])
def sm_18_1cc78592 : sv_SM := (18, 1, 0, [.inl (2147483649, 4294967295, 0, 0, 0)], [], [], [(some (.inl (2147483649, 2147483649, 0, 0, 0)), [.inl (2147483649, 2147483847, 0, 0, 0)], []), (some (.inl (2147483648, 2147483648, 0, 0, 0)), [.inl (2147483848, 4294967295, 0, 0, 0)], [])])
set_option maxRecDepth 1000000 in
theorem sm_18_1cc78592_ok : sv_valid sg sm_18_1cc78592 := sv_main (S := []) (na := 1) (cut := []) (cs := []) (sp := []) (N := 1) sv_nv (by decide +kernel)
-- HungerDays$State.copyFrom(LHungerDays$State;)V (r40, r33)
def sm_72_c5eb5496 : sv_SM := (72, 1, 0, [.inr (some 40), .inr (some 33)], [], [(40, 1, 3), (41, 0, 15), (42, 0, 15), (43, 0, 15), (44, 0, 15), (45, 0, 15), (46, 0, 15)], [(none, [], [])])
set_option maxRecDepth 1000000 in
theorem sm_72_c5eb5496_ok : sv_valid sg sm_72_c5eb5496 := sv_main (S := []) (na := 2) (cut := []) (cs := []) (sp := []) (N := 1) sv_nv (by decide +kernel)
-- HungerDays$State.isIll(I)Z (r40, 0)
def sm_207_0201e6df : sv_SM := (207, 1, 0, [.inr (some 40), .inl (2147483648, 2147483648, 0, 0, 0)], [], [], [(some (.inl (2147483649, 2147483649, 0, 0, 0)), [], []), (some (.inl (2147483648, 2147483648, 0, 0, 0)), [], [])])
set_option maxRecDepth 1000000 in
theorem sm_207_0201e6df_ok : sv_valid sg sm_207_0201e6df := sv_main (S := []) (na := 2) (cut := []) (cs := []) (sp := []) (N := 1) sv_nv (by decide +kernel)
-- HungerDays$State.dateOf(I)I (r40, [0,5])
def sm_201_a5eabeff : sv_SM := (201, 1, 0, [.inr (some 40), .inl (2147483648, 2147483653, 0, 0, 0)], [(65536, 0, 4294967295, 0, 0)], [], [(some (.inl (0, 4294967295, 0, 0, 0)), [], [])])
set_option maxRecDepth 1000000 in
theorem sm_201_a5eabeff_ok : sv_valid sg sm_201_a5eabeff := sv_main (S := []) (na := 2) (cut := []) (cs := []) (sp := []) (N := 1) sv_nv (by decide +kernel)
-- HungerDays$State.isIll(I)Z (r40, [0,1])
def sm_207_6766dd99 : sv_SM := (207, 1, 0, [.inr (some 40), .inl (2147483648, 2147483649, 0, 0, 0)], [], [], [(some (.inl (2147483649, 2147483649, 0, 0, 0)), [], []), (some (.inl (2147483648, 2147483648, 0, 0, 0)), [], [])])
set_option maxRecDepth 1000000 in
theorem sm_207_6766dd99_ok : sv_valid sg sm_207_6766dd99 := sv_main (S := []) (na := 2) (cut := []) (cs := []) (sp := []) (N := 1) sv_nv (by decide +kernel)
-- HungerDays$State.isIll(I)Z (r40, [0,2])
def sm_207_0000b3f3 : sv_SM := (207, 1, 0, [.inr (some 40), .inl (2147483648, 2147483650, 0, 0, 0)], [], [], [(some (.inl (2147483649, 2147483649, 0, 0, 0)), [], []), (some (.inl (2147483648, 2147483648, 0, 0, 0)), [], [])])
set_option maxRecDepth 1000000 in
theorem sm_207_0000b3f3_ok : sv_valid sg sm_207_0000b3f3 := sv_main (S := []) (na := 2) (cut := []) (cs := []) (sp := []) (N := 1) sv_nv (by decide +kernel)
-- HungerDays$State.isIll(I)Z (r40, [0,3])
def sm_207_656788b5 : sv_SM := (207, 1, 0, [.inr (some 40), .inl (2147483648, 2147483651, 0, 0, 0)], [], [], [(some (.inl (2147483649, 2147483649, 0, 0, 0)), [], []), (some (.inl (2147483648, 2147483648, 0, 0, 0)), [], [])])
set_option maxRecDepth 1000000 in
theorem sm_207_656788b5_ok : sv_valid sg sm_207_656788b5 := sv_main (S := []) (na := 2) (cut := []) (cs := []) (sp := []) (N := 1) sv_nv (by decide +kernel)
-- HungerDays$State.isIll(I)Z (r40, [0,4])
def sm_207_cacec57f : sv_SM := (207, 1, 0, [.inr (some 40), .inl (2147483648, 2147483652, 0, 0, 0)], [], [], [(some (.inl (2147483649, 2147483649, 0, 0, 0)), [], []), (some (.inl (2147483648, 2147483648, 0, 0, 0)), [], [])])
set_option maxRecDepth 1000000 in
theorem sm_207_cacec57f_ok : sv_valid sg sm_207_cacec57f := sv_main (S := []) (na := 2) (cut := []) (cs := []) (sp := []) (N := 1) sv_nv (by decide +kernel)
-- HungerDays$State.isIll(I)Z (r40, [0,5])
def sm_207_afa9fe39 : sv_SM := (207, 1, 0, [.inr (some 40), .inl (2147483648, 2147483653, 0, 0, 0)], [], [], [(some (.inl (2147483649, 2147483649, 0, 0, 0)), [], []), (some (.inl (2147483648, 2147483648, 0, 0, 0)), [], [])])
set_option maxRecDepth 1000000 in
theorem sm_207_afa9fe39_ok : sv_valid sg sm_207_afa9fe39 := sv_main (S := []) (na := 2) (cut := []) (cs := []) (sp := []) (N := 1) sv_nv (by decide +kernel)
-- HungerDays$State.firstHaving(I)I (r40, [1,199])
def sm_74_44f6efd4 : sv_SM := (74, 2, 0, [.inr (some 40), .inl (2147483649, 2147483847, 0, 0, 0)], [], [], [(some (.inl (2147483648, 2147483653, 0, 0, 0)), [], []), (some (.inl (2147483647, 2147483647, 0, 0, 0)), [], [])])
set_option maxRecDepth 1000000 in
theorem sm_74_44f6efd4_ok : sv_valid sg sm_74_44f6efd4 := sv_main (S := [sm_207_afa9fe39, sm_201_a5eabeff]) (na := 2) (cut := [2]) (cs := [(2, 1, 1, 5, [some (.inr (some 40)), some (.inl (2147483649, 2147483847, 0, 0, 0)), some (.inl (2147483648, 2147483654, 0, 0, 0))], [], [])]) (sp := []) (N := 2) (sv_cv sm_207_afa9fe39_ok (sv_cv sm_201_a5eabeff_ok sv_nv)) (by decide +kernel)
-- HungerDays$State.mostLeft()I (r40)
def sm_208_a0678127 : sv_SM := (208, 1, 0, [.inr (some 40)], [], [], [(some (.inl (2147483647, 2147483651, 0, 0, 0)), [], [])])
set_option maxRecDepth 1000000 in
theorem sm_208_a0678127_ok : sv_valid sg sm_208_a0678127 := sv_main (S := []) (na := 1) (cut := [6]) (cs := [(6, 1, 1, 7, [some (.inr (some 40)), some (.inl (2147483647, 2147483651, 0, 0, 0)), some (.inl (0, 4294967295, 0, 0, 0)), some (.inl (2147483648, 2147483652, 0, 0, 0))], [], [])]) (sp := []) (N := 2) sv_nv (by decide +kernel)
-- HungerDays$State.takePortion(II)V (r40, [0,5], [0,3])
def sm_212_dd233472 : sv_SM := (212, 1, 0, [.inr (some 40), .inl (2147483648, 2147483653, 0, 0, 0), .inl (2147483648, 2147483651, 0, 0, 0)], [], [(41, 0, 5), (43, 0, 5), (44, 0, 3)], [(none, [], [])])
set_option maxRecDepth 1000000 in
theorem sm_212_dd233472_ok : sv_valid sg sm_212_dd233472 := sv_main (S := []) (na := 3) (cut := []) (cs := []) (sp := []) (N := 1) sv_nv (by decide +kernel)
-- HungerDays$State.eatBelow(I)Z (r40, [1,199])
def sm_73_44f6efd4 : sv_SM := (73, 3, 0, [.inr (some 40), .inl (2147483649, 2147483847, 0, 0, 0)], [], [(41, 0, 5), (43, 0, 5), (44, 0, 3)], [(some (.inl (2147483649, 2147483649, 0, 0, 0)), [], []), (some (.inl (2147483648, 2147483648, 0, 0, 0)), [], [])])
set_option maxRecDepth 1000000 in
theorem sm_73_44f6efd4_ok : sv_valid sg sm_73_44f6efd4 := sv_main (S := [sm_74_44f6efd4, sm_208_a0678127, sm_212_dd233472]) (na := 2) (cut := [2]) (cs := [(2, 1, 1, 5, [some (.inr (some 40)), some (.inl (2147483649, 2147483847, 0, 0, 0)), some (.inl (2147483648, 2147483669, 0, 0, 0)), none, none], [], [])]) (sp := []) (N := 2) (sv_cv sm_74_44f6efd4_ok (sv_cv sm_208_a0678127_ok (sv_cv sm_212_dd233472_ok sv_nv))) (by decide +kernel)
-- HungerDays$State.isOver()Z (r40)
def sm_76_a0678127 : sv_SM := (76, 1, 0, [.inr (some 40)], [], [], [(some (.inl (2147483649, 2147483649, 0, 0, 0)), [], []), (some (.inl (2147483648, 2147483648, 0, 0, 0)), [], [])])
set_option maxRecDepth 1000000 in
theorem sm_76_a0678127_ok : sv_valid sg sm_76_a0678127 := sv_main (S := []) (na := 1) (cut := []) (cs := []) (sp := []) (N := 1) sv_nv (by decide +kernel)
-- HungerDays$State.isDue(I)Z (r40, 0)
def sm_206_0201e6df : sv_SM := (206, 2, 0, [.inr (some 40), .inl (2147483648, 2147483648, 0, 0, 0)], [], [], [(some (.inl (2147483649, 2147483649, 0, 0, 0)), [], []), (some (.inl (2147483648, 2147483648, 0, 0, 0)), [], [])])
set_option maxRecDepth 1000000 in
theorem sm_206_0201e6df_ok : sv_valid sg sm_206_0201e6df := sv_main (S := [sm_207_afa9fe39, sm_201_a5eabeff]) (na := 2) (cut := []) (cs := []) (sp := []) (N := 1) (sv_cv sm_207_afa9fe39_ok (sv_cv sm_201_a5eabeff_ok sv_nv)) (by decide +kernel)
-- HungerDays$State.pays(I)Z (r40, 0)
def sm_211_0201e6df : sv_SM := (211, 1, 0, [.inr (some 40), .inl (2147483648, 2147483648, 0, 0, 0)], [], [(42, 0, 5), (46, 0, 0)], [(some (.inl (2147483648, 2147483648, 0, 0, 0)), [], []), (some (.inl (2147483649, 2147483649, 0, 0, 0)), [], [])])
set_option maxRecDepth 1000000 in
theorem sm_211_0201e6df_ok : sv_valid sg sm_211_0201e6df := sv_main (S := []) (na := 2) (cut := []) (cs := []) (sp := []) (N := 1) sv_nv (by decide +kernel)
-- HungerDays$State.isDue(I)Z (r40, [0,1])
def sm_206_6766dd99 : sv_SM := (206, 2, 0, [.inr (some 40), .inl (2147483648, 2147483649, 0, 0, 0)], [], [], [(some (.inl (2147483649, 2147483649, 0, 0, 0)), [], []), (some (.inl (2147483648, 2147483648, 0, 0, 0)), [], [])])
set_option maxRecDepth 1000000 in
theorem sm_206_6766dd99_ok : sv_valid sg sm_206_6766dd99 := sv_main (S := [sm_207_afa9fe39, sm_201_a5eabeff]) (na := 2) (cut := []) (cs := []) (sp := []) (N := 1) (sv_cv sm_207_afa9fe39_ok (sv_cv sm_201_a5eabeff_ok sv_nv)) (by decide +kernel)
-- HungerDays$State.pays(I)Z (r40, [0,1])
def sm_211_6766dd99 : sv_SM := (211, 1, 0, [.inr (some 40), .inl (2147483648, 2147483649, 0, 0, 0)], [], [(42, 0, 5), (46, 0, 1)], [(some (.inl (2147483648, 2147483648, 0, 0, 0)), [], []), (some (.inl (2147483649, 2147483649, 0, 0, 0)), [], [])])
set_option maxRecDepth 1000000 in
theorem sm_211_6766dd99_ok : sv_valid sg sm_211_6766dd99 := sv_main (S := []) (na := 2) (cut := []) (cs := []) (sp := []) (N := 1) sv_nv (by decide +kernel)
-- HungerDays$State.isDue(I)Z (r40, [0,2])
def sm_206_0000b3f3 : sv_SM := (206, 2, 0, [.inr (some 40), .inl (2147483648, 2147483650, 0, 0, 0)], [], [], [(some (.inl (2147483649, 2147483649, 0, 0, 0)), [], []), (some (.inl (2147483648, 2147483648, 0, 0, 0)), [], [])])
set_option maxRecDepth 1000000 in
theorem sm_206_0000b3f3_ok : sv_valid sg sm_206_0000b3f3 := sv_main (S := [sm_207_afa9fe39, sm_201_a5eabeff]) (na := 2) (cut := []) (cs := []) (sp := []) (N := 1) (sv_cv sm_207_afa9fe39_ok (sv_cv sm_201_a5eabeff_ok sv_nv)) (by decide +kernel)
-- HungerDays$State.pays(I)Z (r40, [0,2])
def sm_211_0000b3f3 : sv_SM := (211, 1, 0, [.inr (some 40), .inl (2147483648, 2147483650, 0, 0, 0)], [], [(42, 0, 5), (46, 0, 2)], [(some (.inl (2147483648, 2147483648, 0, 0, 0)), [], []), (some (.inl (2147483649, 2147483649, 0, 0, 0)), [], [])])
set_option maxRecDepth 1000000 in
theorem sm_211_0000b3f3_ok : sv_valid sg sm_211_0000b3f3 := sv_main (S := []) (na := 2) (cut := []) (cs := []) (sp := []) (N := 1) sv_nv (by decide +kernel)
-- HungerDays$State.isDue(I)Z (r40, [0,3])
def sm_206_656788b5 : sv_SM := (206, 2, 0, [.inr (some 40), .inl (2147483648, 2147483651, 0, 0, 0)], [], [], [(some (.inl (2147483649, 2147483649, 0, 0, 0)), [], []), (some (.inl (2147483648, 2147483648, 0, 0, 0)), [], [])])
set_option maxRecDepth 1000000 in
theorem sm_206_656788b5_ok : sv_valid sg sm_206_656788b5 := sv_main (S := [sm_207_afa9fe39, sm_201_a5eabeff]) (na := 2) (cut := []) (cs := []) (sp := []) (N := 1) (sv_cv sm_207_afa9fe39_ok (sv_cv sm_201_a5eabeff_ok sv_nv)) (by decide +kernel)
-- HungerDays$State.pays(I)Z (r40, [0,3])
def sm_211_656788b5 : sv_SM := (211, 1, 0, [.inr (some 40), .inl (2147483648, 2147483651, 0, 0, 0)], [], [(42, 0, 5), (46, 0, 3)], [(some (.inl (2147483648, 2147483648, 0, 0, 0)), [], []), (some (.inl (2147483649, 2147483649, 0, 0, 0)), [], [])])
set_option maxRecDepth 1000000 in
theorem sm_211_656788b5_ok : sv_valid sg sm_211_656788b5 := sv_main (S := []) (na := 2) (cut := []) (cs := []) (sp := []) (N := 1) sv_nv (by decide +kernel)
-- HungerDays$State.isDue(I)Z (r40, [0,4])
def sm_206_cacec57f : sv_SM := (206, 2, 0, [.inr (some 40), .inl (2147483648, 2147483652, 0, 0, 0)], [], [], [(some (.inl (2147483649, 2147483649, 0, 0, 0)), [], []), (some (.inl (2147483648, 2147483648, 0, 0, 0)), [], [])])
set_option maxRecDepth 1000000 in
theorem sm_206_cacec57f_ok : sv_valid sg sm_206_cacec57f := sv_main (S := [sm_207_afa9fe39, sm_201_a5eabeff]) (na := 2) (cut := []) (cs := []) (sp := []) (N := 1) (sv_cv sm_207_afa9fe39_ok (sv_cv sm_201_a5eabeff_ok sv_nv)) (by decide +kernel)
-- HungerDays$State.pays(I)Z (r40, [0,4])
def sm_211_cacec57f : sv_SM := (211, 1, 0, [.inr (some 40), .inl (2147483648, 2147483652, 0, 0, 0)], [], [(42, 0, 5), (46, 0, 4)], [(some (.inl (2147483648, 2147483648, 0, 0, 0)), [], []), (some (.inl (2147483649, 2147483649, 0, 0, 0)), [], [])])
set_option maxRecDepth 1000000 in
theorem sm_211_cacec57f_ok : sv_valid sg sm_211_cacec57f := sv_main (S := []) (na := 2) (cut := []) (cs := []) (sp := []) (N := 1) sv_nv (by decide +kernel)
-- HungerDays$State.isDue(I)Z (r40, [0,5])
def sm_206_afa9fe39 : sv_SM := (206, 2, 0, [.inr (some 40), .inl (2147483648, 2147483653, 0, 0, 0)], [], [], [(some (.inl (2147483649, 2147483649, 0, 0, 0)), [], []), (some (.inl (2147483648, 2147483648, 0, 0, 0)), [], [])])
set_option maxRecDepth 1000000 in
theorem sm_206_afa9fe39_ok : sv_valid sg sm_206_afa9fe39 := sv_main (S := [sm_207_afa9fe39, sm_201_a5eabeff]) (na := 2) (cut := []) (cs := []) (sp := []) (N := 1) (sv_cv sm_207_afa9fe39_ok (sv_cv sm_201_a5eabeff_ok sv_nv)) (by decide +kernel)
-- HungerDays$State.pays(I)Z (r40, [0,5])
def sm_211_afa9fe39 : sv_SM := (211, 1, 0, [.inr (some 40), .inl (2147483648, 2147483653, 0, 0, 0)], [], [(42, 0, 5), (46, 0, 5)], [(some (.inl (2147483648, 2147483648, 0, 0, 0)), [], []), (some (.inl (2147483649, 2147483649, 0, 0, 0)), [], [])])
set_option maxRecDepth 1000000 in
theorem sm_211_afa9fe39_ok : sv_valid sg sm_211_afa9fe39 := sv_main (S := []) (na := 2) (cut := []) (cs := []) (sp := []) (N := 1) sv_nv (by decide +kernel)
-- HungerDays$State.isDue(I)Z (r40, [0,6])
def sm_206_4eed58aa : sv_SM := (206, 2, 0, [.inr (some 40), .inl (2147483648, 2147483654, 0, 0, 0)], [], [], [(some (.inl (2147483649, 2147483649, 0, 0, 0)), [], []), (some (.inl (2147483648, 2147483648, 0, 0, 0)), [], [])])
set_option maxRecDepth 1000000 in
theorem sm_206_4eed58aa_ok : sv_valid sg sm_206_4eed58aa := sv_main (S := [sm_207_afa9fe39, sm_201_a5eabeff]) (na := 2) (cut := []) (cs := []) (sp := []) (N := 1) (sv_cv sm_207_afa9fe39_ok (sv_cv sm_201_a5eabeff_ok sv_nv)) (by decide +kernel)
-- HungerDays$State.pays(I)Z (r40, [0,6])
def sm_211_4eed58aa : sv_SM := (211, 1, 0, [.inr (some 40), .inl (2147483648, 2147483654, 0, 0, 0)], [], [(42, 0, 5), (46, 0, 6)], [(some (.inl (2147483648, 2147483648, 0, 0, 0)), [], []), (some (.inl (2147483649, 2147483649, 0, 0, 0)), [], [])])
set_option maxRecDepth 1000000 in
theorem sm_211_4eed58aa_ok : sv_valid sg sm_211_4eed58aa := sv_main (S := []) (na := 2) (cut := []) (cs := []) (sp := []) (N := 1) sv_nv (by decide +kernel)
-- HungerDays$State.isDue(I)Z (r40, [0,7])
def sm_206_2b8a63ec : sv_SM := (206, 2, 0, [.inr (some 40), .inl (2147483648, 2147483655, 0, 0, 0)], [], [], [(some (.inl (2147483649, 2147483649, 0, 0, 0)), [], []), (some (.inl (2147483648, 2147483648, 0, 0, 0)), [], [])])
set_option maxRecDepth 1000000 in
theorem sm_206_2b8a63ec_ok : sv_valid sg sm_206_2b8a63ec := sv_main (S := [sm_207_afa9fe39, sm_201_a5eabeff]) (na := 2) (cut := []) (cs := []) (sp := []) (N := 1) (sv_cv sm_207_afa9fe39_ok (sv_cv sm_201_a5eabeff_ok sv_nv)) (by decide +kernel)
-- HungerDays$State.pays(I)Z (r40, [0,7])
def sm_211_2b8a63ec : sv_SM := (211, 1, 0, [.inr (some 40), .inl (2147483648, 2147483655, 0, 0, 0)], [], [(42, 0, 5), (46, 0, 7)], [(some (.inl (2147483648, 2147483648, 0, 0, 0)), [], []), (some (.inl (2147483649, 2147483649, 0, 0, 0)), [], [])])
set_option maxRecDepth 1000000 in
theorem sm_211_2b8a63ec_ok : sv_valid sg sm_211_2b8a63ec := sv_main (S := []) (na := 2) (cut := []) (cs := []) (sp := []) (N := 1) sv_nv (by decide +kernel)
-- HungerDays$State.isDue(I)Z (r40, [0,8])
def sm_206_84232e26 : sv_SM := (206, 2, 0, [.inr (some 40), .inl (2147483648, 2147483656, 0, 0, 0)], [], [], [(some (.inl (2147483649, 2147483649, 0, 0, 0)), [], []), (some (.inl (2147483648, 2147483648, 0, 0, 0)), [], [])])
set_option maxRecDepth 1000000 in
theorem sm_206_84232e26_ok : sv_valid sg sm_206_84232e26 := sv_main (S := [sm_207_afa9fe39, sm_201_a5eabeff]) (na := 2) (cut := []) (cs := []) (sp := []) (N := 1) (sv_cv sm_207_afa9fe39_ok (sv_cv sm_201_a5eabeff_ok sv_nv)) (by decide +kernel)
-- HungerDays$State.pays(I)Z (r40, [0,8])
def sm_211_84232e26 : sv_SM := (211, 1, 0, [.inr (some 40), .inl (2147483648, 2147483656, 0, 0, 0)], [], [(42, 0, 5), (46, 0, 8)], [(some (.inl (2147483648, 2147483648, 0, 0, 0)), [], []), (some (.inl (2147483649, 2147483649, 0, 0, 0)), [], [])])
set_option maxRecDepth 1000000 in
theorem sm_211_84232e26_ok : sv_valid sg sm_211_84232e26 := sv_main (S := []) (na := 2) (cut := []) (cs := []) (sp := []) (N := 1) sv_nv (by decide +kernel)
-- HungerDays$State.isDue(I)Z (r40, [0,9])
def sm_206_e1441560 : sv_SM := (206, 2, 0, [.inr (some 40), .inl (2147483648, 2147483657, 0, 0, 0)], [], [], [(some (.inl (2147483649, 2147483649, 0, 0, 0)), [], []), (some (.inl (2147483648, 2147483648, 0, 0, 0)), [], [])])
set_option maxRecDepth 1000000 in
theorem sm_206_e1441560_ok : sv_valid sg sm_206_e1441560 := sv_main (S := [sm_207_afa9fe39, sm_201_a5eabeff]) (na := 2) (cut := []) (cs := []) (sp := []) (N := 1) (sv_cv sm_207_afa9fe39_ok (sv_cv sm_201_a5eabeff_ok sv_nv)) (by decide +kernel)
-- HungerDays$State.pays(I)Z (r40, [0,9])
def sm_211_e1441560 : sv_SM := (211, 1, 0, [.inr (some 40), .inl (2147483648, 2147483657, 0, 0, 0)], [], [(42, 0, 5), (46, 0, 9)], [(some (.inl (2147483648, 2147483648, 0, 0, 0)), [], []), (some (.inl (2147483649, 2147483649, 0, 0, 0)), [], [])])
set_option maxRecDepth 1000000 in
theorem sm_211_e1441560_ok : sv_valid sg sm_211_e1441560 := sv_main (S := []) (na := 2) (cut := []) (cs := []) (sp := []) (N := 1) sv_nv (by decide +kernel)
-- HungerDays$State.passHour()V (r40)
def sm_78_a0678127 : sv_SM := (78, 3, 0, [.inr (some 40)], [], [(40, 1, 1), (40, 3, 3), (41, 0, 5), (42, 0, 5), (46, 0, 9)], [(none, [], [])])
set_option maxRecDepth 1000000 in
theorem sm_78_a0678127_ok : sv_valid sg sm_78_a0678127 := sv_main (S := [sm_86_06566991, sm_207_afa9fe39, sm_206_e1441560, sm_211_e1441560]) (na := 1) (cut := [22, 81]) (cs := [(22, 1, 1, 5, [some (.inr (some 40)), some (.inl (2147483649, 2147483650, 0, 0, 0)), some (.inl (2147483648, 2147483654, 0, 0, 0)), none], [], []), (81, 2, 2, 7, [some (.inr (some 40)), some (.inl (2147483649, 2147483650, 0, 0, 0)), some (.inl (2147483648, 2147483649, 0, 0, 0)), some (.inl (2147483648, 2147483658, 0, 0, 0))], [], [])]) (sp := []) (N := 3) (sv_cv sm_86_06566991_ok (sv_cv sm_207_afa9fe39_ok (sv_cv sm_206_e1441560_ok (sv_cv sm_211_e1441560_ok sv_nv)))) (by decide +kernel)
-- HungerDays.keeps(I)I (r0, [MIN,MAX])
def sm_24_ef2370ea : sv_SM := (24, 4, 0, [.inr (some 0), .inl (0, 4294967295, 0, 0, 0)], [], [(40, 1, 3), (41, 0, 15), (42, 0, 15), (43, 0, 15), (44, 0, 15), (45, 0, 15), (46, 0, 15)], [(some (.inl (2147483647, 2147483647, 0, 0, 0)), [], []), (some (.inl (2147483648, 2147483848, 0, 0, 0)), [.inr (some 0), .inl (2147483649, 2147483847, 0, 0, 0)], [])])
set_option maxRecDepth 1000000 in
theorem sm_24_ef2370ea_ok : sv_valid sg sm_24_ef2370ea := sv_main (S := [sm_18_1cc78592, sm_72_c5eb5496, sm_73_44f6efd4, sm_76_a0678127, sm_78_a0678127]) (na := 2) (cut := [27]) (cs := [(27, 1, 1, 5, [some (.inr (some 0)), some (.inl (2147483649, 2147483847, 0, 0, 0)), some (.inl (2147483648, 2147483848, 0, 0, 0))], [], [])]) (sp := []) (N := 2) (sv_cv sm_18_1cc78592_ok (sv_cv sm_72_c5eb5496_ok (sv_cv sm_73_44f6efd4_ok (sv_cv sm_76_a0678127_ok (sv_cv sm_78_a0678127_ok sv_nv))))) (by decide +kernel)
-- HungerDays.isDate(I)Z ([MIN,MAX])
def sm_18_94ac37e7 : sv_SM := (18, 1, 0, [.inl (0, 4294967295, 0, 0, 0)], [], [], [(some (.inl (2147483649, 2147483649, 0, 0, 0)), [.inl (2147483648, 2147483847, 0, 0, 0)], []), (some (.inl (2147483648, 2147483648, 0, 0, 0)), [], [])])
set_option maxRecDepth 1000000 in
theorem sm_18_94ac37e7_ok : sv_valid sg sm_18_94ac37e7 := sv_main (S := []) (na := 1) (cut := []) (cs := []) (sp := []) (N := 1) sv_nv (by decide +kernel)
-- HungerDays$State.allHave(I)Z (r40, [0,199])
def sm_200_b52cea7e : sv_SM := (200, 2, 0, [.inr (some 40), .inl (2147483648, 2147483847, 0, 0, 0)], [], [], [(some (.inl (2147483648, 2147483648, 0, 0, 0)), [], []), (some (.inl (2147483649, 2147483649, 0, 0, 0)), [], [])])
set_option maxRecDepth 1000000 in
theorem sm_200_b52cea7e_ok : sv_valid sg sm_200_b52cea7e := sv_main (S := [sm_201_a5eabeff]) (na := 2) (cut := [2]) (cs := [(2, 1, 1, 5, [some (.inr (some 40)), some (.inl (2147483648, 2147483847, 0, 0, 0)), some (.inl (2147483648, 2147483654, 0, 0, 0))], [], [])]) (sp := []) (N := 2) (sv_cv sm_201_a5eabeff_ok sv_nv) (by decide +kernel)
-- HungerDays.late(I)I (r0, [MIN,MAX])
def sm_25_ef2370ea : sv_SM := (25, 4, 0, [.inr (some 0), .inl (0, 4294967295, 0, 0, 0)], [], [(40, 1, 3), (41, 0, 15), (42, 0, 15), (43, 0, 15), (44, 0, 15), (45, 0, 15), (46, 0, 15)], [(some (.inl (2147483647, 2147483647, 0, 0, 0)), [], []), (some (.inl (0, 4294967295, 0, 0, 0)), [.inr (some 0), .inl (2147483648, 2147483847, 0, 0, 0)], [])])
set_option maxRecDepth 1000000 in
theorem sm_25_ef2370ea_ok : sv_valid sg sm_25_ef2370ea := sv_main (S := [sm_18_94ac37e7, sm_72_c5eb5496, sm_200_b52cea7e, sm_76_a0678127, sm_78_a0678127]) (na := 2) (cut := [32]) (cs := [(32, 1, 1, 5, [some (.inr (some 0)), some (.inl (2147483648, 2147483847, 0, 0, 0)), some (.inl (2147483648, 2147483849, 0, 0, 0))], [], [])]) (sp := []) (N := 2) (sv_cv sm_18_94ac37e7_ok (sv_cv sm_72_c5eb5496_ok (sv_cv sm_200_b52cea7e_ok (sv_cv sm_76_a0678127_ok (sv_cv sm_78_a0678127_ok sv_nv))))) (by decide +kernel)
-- HungerDays$State.passHours(I)I (r40, [MIN,MAX])
def sm_79_04b53a84 : sv_SM := (79, 4, 0, [.inr (some 40), .inl (0, 4294967295, 0, 0, 0)], [], [(40, 1, 1), (40, 3, 3), (41, 0, 5), (42, 0, 5), (46, 0, 9)], [(some (.inl (2147483648, 4294967295, 0, 0, 0)), [], [])])
set_option maxRecDepth 1000000 in
theorem sm_79_04b53a84_ok : sv_valid sg sm_79_04b53a84 := sv_main (S := [sm_76_a0678127, sm_78_a0678127]) (na := 2) (cut := [2]) (cs := [(2, 1, 1, 5, [some (.inr (some 40)), some (.inl (0, 4294967295, 0, 0, 0)), some (.inl (2147483648, 4294967295, 0, 0, 0))], [], [])]) (sp := []) (N := 2) (sv_cv sm_76_a0678127_ok (sv_cv sm_78_a0678127_ok sv_nv)) (by decide +kernel)
-- HungerDays.later(II)I (r0, [MIN,MAX], [MIN,MAX])
def sm_26_96cac3f7 : sv_SM := (26, 5, 0, [.inr (some 0), .inl (0, 4294967295, 0, 0, 0), .inl (0, 4294967295, 0, 0, 0)], [], [(40, 1, 3), (41, 0, 15), (42, 0, 15), (43, 0, 15), (44, 0, 15), (45, 0, 15), (46, 0, 15)], [(some (.inl (2147483647, 2147483647, 0, 0, 0)), [], []), (some (.inl (0, 4294967295, 0, 0, 0)), [.inr (some 0), .inl (2147483648, 2147483653, 0, 0, 0), .inl (0, 2147484248, 0, 0, 0)], [])])
set_option maxRecDepth 1000000 in
theorem sm_26_96cac3f7_ok : sv_valid sg sm_26_96cac3f7 := sv_main (S := [sm_23_ef2370ea, sm_72_c5eb5496, sm_79_04b53a84, sm_201_a5eabeff]) (na := 3) (cut := []) (cs := []) (sp := []) (N := 1) (sv_cv sm_23_ef2370ea_ok (sv_cv sm_72_c5eb5496_ok (sv_cv sm_79_04b53a84_ok (sv_cv sm_201_a5eabeff_ok sv_nv)))) (by decide +kernel)
-- HungerDays.isMeeting(I)Z (r0, [MIN,MAX])
def sm_22_ef2370ea : sv_SM := (22, 1, 0, [.inr (some 0), .inl (0, 4294967295, 0, 0, 0)], [], [], [(some (.inl (2147483649, 2147483649, 0, 0, 0)), [.inr (some 0), .inl (2147483648, 2147483653, 0, 0, 0)], []), (some (.inl (2147483648, 2147483648, 0, 0, 0)), [], [])])
set_option maxRecDepth 1000000 in
theorem sm_22_ef2370ea_ok : sv_valid sg sm_22_ef2370ea := sv_main (S := []) (na := 2) (cut := []) (cs := []) (sp := []) (N := 1) sv_nv (by decide +kernel)
-- HungerDays.meet(I)I (r0, [MIN,MAX])
def sm_27_ef2370ea : sv_SM := (27, 5, 0, [.inr (some 0), .inl (0, 4294967295, 0, 0, 0)], [], [(38, 0, 5), (47, 1, 2), (49, 1, 3), (50, 0, 15), (51, 0, 15), (52, 0, 15), (53, 0, 15), (54, 0, 15), (55, 0, 15), (56, 1, 3), (57, 0, 15), (58, 0, 15), (59, 0, 15), (60, 0, 15), (61, 0, 15), (62, 0, 15), (63, 1, 3), (64, 0, 15), (65, 0, 15), (66, 0, 15), (67, 0, 15), (68, 0, 15), (69, 0, 15), (70, 1, 3), (71, 0, 15), (72, 0, 15), (73, 0, 15), (74, 0, 15), (75, 0, 15), (76, 0, 15), (77, 1, 3), (78, 0, 15), (79, 0, 15), (80, 0, 15), (81, 0, 15), (82, 0, 15), (83, 0, 15), (84, 1, 3), (85, 0, 15), (86, 0, 15), (87, 0, 15), (88, 0, 15), (89, 0, 15), (90, 0, 15), (91, 1, 3), (92, 0, 15), (93, 0, 15), (94, 0, 15), (95, 0, 15), (96, 0, 15), (97, 0, 15), (98, 1, 3), (99, 0, 15), (100, 0, 15), (101, 0, 15), (102, 0, 15), (103, 0, 15), (104, 0, 15)], [(some (.inl (2147483647, 2147483647, 0, 0, 0)), [], []), (some (.inl (2147483648, 2147483651, 0, 0, 0)), [.inr (some 0), .inl (2147483648, 2147483653, 0, 0, 0)], [])])
set_option maxRecDepth 1000000 in
theorem sm_27_ef2370ea_ok : sv_valid sg sm_27_ef2370ea := sv_main (S := [sm_22_ef2370ea, sm_217_ec8c1eaf, sm_55_a0326ad6, sm_203_ec8c1eaf]) (na := 2) (cut := []) (cs := []) (sp := []) (N := 1) (sv_cv sm_22_ef2370ea_ok (sv_cv sm_217_ec8c1eaf_ok (sv_cv sm_55_a0326ad6_ok (sv_cv sm_203_ec8c1eaf_ok sv_nv)))) (by decide +kernel)
-- HungerDays.meeting(II)I (r0, [MIN,MAX], [MIN,MAX])
def sm_28_96cac3f7 : sv_SM := (28, 5, 0, [.inr (some 0), .inl (0, 4294967295, 0, 0, 0), .inl (0, 4294967295, 0, 0, 0)], [], [], [(some (.inl (2147483647, 2147483647, 0, 0, 0)), [], []), (some (.inl (0, 4294967295, 0, 0, 0)), [.inr (some 0), .inl (2147483648, 2147483653, 0, 0, 0), .inl (2147483648, 2147483651, 0, 0, 0)], [])])
set_option maxRecDepth 1000000 in
theorem sm_28_96cac3f7_ok : sv_valid sg sm_28_96cac3f7 := sv_main (S := [sm_22_ef2370ea, sm_214_32847757, sm_217_ec8c1eaf]) (na := 3) (cut := []) (cs := []) (sp := []) (N := 1) (sv_cv sm_22_ef2370ea_ok (sv_cv sm_214_32847757_ok (sv_cv sm_217_ec8c1eaf_ok sv_nv))) (by decide +kernel)
-- HungerDays$State.whyNotMend(I)I (r33, [0,5])
def sm_218_ec8c1eaf : sv_SM := (218, 2, 0, [.inr (some 33), .inl (2147483648, 2147483653, 0, 0, 0)], [], [], [(some (.inl (2147483648, 2147483649, 0, 0, 0)), [], [])])
set_option maxRecDepth 1000000 in
theorem sm_218_ec8c1eaf_ok : sv_valid sg sm_218_ec8c1eaf := sv_main (S := [sm_207_ec8c1eaf]) (na := 2) (cut := []) (cs := []) (sp := []) (N := 1) (sv_cv sm_207_ec8c1eaf_ok sv_nv) (by decide +kernel)
-- HungerDays.mend(I)I (r0, [MIN,MAX])
def sm_29_ef2370ea : sv_SM := (29, 3, 0, [.inr (some 0), .inl (0, 4294967295, 0, 0, 0)], [], [(33, 2, 2), (47, 1, 2), (49, 1, 3), (50, 0, 15), (51, 0, 15), (52, 0, 15), (53, 0, 15), (54, 0, 15), (55, 0, 15), (56, 1, 3), (57, 0, 15), (58, 0, 15), (59, 0, 15), (60, 0, 15), (61, 0, 15), (62, 0, 15), (63, 1, 3), (64, 0, 15), (65, 0, 15), (66, 0, 15), (67, 0, 15), (68, 0, 15), (69, 0, 15), (70, 1, 3), (71, 0, 15), (72, 0, 15), (73, 0, 15), (74, 0, 15), (75, 0, 15), (76, 0, 15), (77, 1, 3), (78, 0, 15), (79, 0, 15), (80, 0, 15), (81, 0, 15), (82, 0, 15), (83, 0, 15), (84, 1, 3), (85, 0, 15), (86, 0, 15), (87, 0, 15), (88, 0, 15), (89, 0, 15), (90, 0, 15), (91, 1, 3), (92, 0, 15), (93, 0, 15), (94, 0, 15), (95, 0, 15), (96, 0, 15), (97, 0, 15), (98, 1, 3), (99, 0, 15), (100, 0, 15), (101, 0, 15), (102, 0, 15), (103, 0, 15), (104, 0, 15)], [(some (.inl (2147483647, 2147483647, 0, 0, 0)), [], []), (some (.inl (2147483648, 2147483649, 0, 0, 0)), [.inr (some 0), .inl (2147483648, 2147483653, 0, 0, 0)], [])])
set_option maxRecDepth 1000000 in
theorem sm_29_ef2370ea_ok : sv_valid sg sm_29_ef2370ea := sv_main (S := [sm_23_ef2370ea, sm_218_ec8c1eaf, sm_55_a0326ad6, sm_213_ec8c1eaf]) (na := 2) (cut := []) (cs := []) (sp := []) (N := 1) (sv_cv sm_23_ef2370ea_ok (sv_cv sm_218_ec8c1eaf_ok (sv_cv sm_55_a0326ad6_ok (sv_cv sm_213_ec8c1eaf_ok sv_nv)))) (by decide +kernel)
-- HungerDays.sumOf([II)I (r37, [0,4])
def sm_41_17f2e727 : sv_SM := (41, 1, 0, [.inr (some 37), .inl (2147483648, 2147483652, 0, 0, 0)], [], [], [(some (.inl (0, 4294967295, 0, 0, 0)), [], [])])
set_option maxRecDepth 1000000 in
theorem sm_41_17f2e727_ok : sv_valid sg sm_41_17f2e727 := sv_main (S := []) (na := 2) (cut := [4]) (cs := [(4, 1, 1, 7, [some (.inr (some 37)), some (.inl (2147483648, 2147483652, 0, 0, 0)), some (.inl (0, 4294967295, 0, 0, 0)), some (.inl (2147483648, 2147483652, 0, 0, 0))], [], [])]) (sp := []) (N := 2) sv_nv (by decide +kernel)
-- HungerDays.sumOf([II)I (r35, [0,6])
def sm_41_dcdd9b95 : sv_SM := (41, 1, 0, [.inr (some 35), .inl (2147483648, 2147483654, 0, 0, 0)], [], [], [(some (.inl (0, 4294967295, 0, 0, 0)), [], [])])
set_option maxRecDepth 1000000 in
theorem sm_41_dcdd9b95_ok : sv_valid sg sm_41_dcdd9b95 := sv_main (S := []) (na := 2) (cut := [4]) (cs := [(4, 1, 1, 7, [some (.inr (some 35)), some (.inl (2147483648, 2147483654, 0, 0, 0)), some (.inl (0, 4294967295, 0, 0, 0)), some (.inl (2147483648, 2147483654, 0, 0, 0))], [], [])]) (sp := []) (N := 2) sv_nv (by decide +kernel)
-- HungerDays$State.paidDebts()I (r33)
def sm_77_4d1d0ea9 : sv_SM := (77, 1, 0, [.inr (some 33)], [], [], [(some (.inl (0, 4294967295, 0, 0, 0)), [], [])])
set_option maxRecDepth 1000000 in
theorem sm_77_4d1d0ea9_ok : sv_valid sg sm_77_4d1d0ea9 := sv_main (S := []) (na := 1) (cut := [4]) (cs := [(4, 1, 1, 5, [some (.inr (some 33)), some (.inl (0, 4294967295, 0, 0, 0)), some (.inl (2147483648, 2147483658, 0, 0, 0))], [], [])]) (sp := []) (N := 2) sv_nv (by decide +kernel)
-- HungerDays$State.heldMeetings()I (r33)
def sm_75_4d1d0ea9 : sv_SM := (75, 1, 0, [.inr (some 33)], [], [], [(some (.inl (0, 4294967295, 0, 0, 0)), [], [])])
set_option maxRecDepth 1000000 in
theorem sm_75_4d1d0ea9_ok : sv_valid sg sm_75_4d1d0ea9 := sv_main (S := []) (na := 1) (cut := [4]) (cs := [(4, 1, 1, 5, [some (.inr (some 33)), some (.inl (0, 4294967295, 0, 0, 0)), some (.inl (2147483648, 2147483654, 0, 0, 0))], [], [])]) (sp := []) (N := 2) sv_nv (by decide +kernel)
-- HungerDays.now(I)I (r0, [MIN,MAX])
def sm_30_ef2370ea : sv_SM := (30, 2, 0, [.inr (some 0), .inl (0, 4294967295, 0, 0, 0)], [], [], [(some (.inl (0, 4294967295, 0, 0, 0)), [.inr (some 0), .inl (2147483648, 2147483655, 0, 0, 0)], []), (some (.inl (2147483647, 2147483647, 0, 0, 0)), [], [])])
set_option maxRecDepth 1000000 in
theorem sm_30_ef2370ea_ok : sv_valid sg sm_30_ef2370ea := sv_main (S := [sm_41_17f2e727, sm_41_dcdd9b95, sm_77_4d1d0ea9, sm_75_4d1d0ea9, sm_86_06566991]) (na := 2) (cut := []) (cs := []) (sp := []) (N := 1) (sv_cv sm_41_17f2e727_ok (sv_cv sm_41_dcdd9b95_ok (sv_cv sm_77_4d1d0ea9_ok (sv_cv sm_75_4d1d0ea9_ok (sv_cv sm_86_06566991_ok sv_nv))))) (by decide +kernel)
-- HungerDays$State.whyNotEat(II)I (r40, 0, [0,3])
def sm_216_c4c287a0 : sv_SM := (216, 2, 0, [.inr (some 40), .inl (2147483648, 2147483648, 0, 0, 0), .inl (2147483648, 2147483651, 0, 0, 0)], [], [], [(some (.inl (2147483648, 2147483651, 0, 0, 0)), [], [])])
set_option maxRecDepth 1000000 in
theorem sm_216_c4c287a0_ok : sv_valid sg sm_216_c4c287a0 := sv_main (S := [sm_207_0201e6df]) (na := 3) (cut := []) (cs := []) (sp := []) (N := 1) (sv_cv sm_207_0201e6df_ok sv_nv) (by decide +kernel)
-- HungerDays$State.takePortion(II)V (r40, 0, [0,3])
def sm_212_c4c287a0 : sv_SM := (212, 1, 0, [.inr (some 40), .inl (2147483648, 2147483648, 0, 0, 0), .inl (2147483648, 2147483651, 0, 0, 0)], [], [(41, 0, 0), (43, 0, 0), (44, 0, 3)], [(none, [], [])])
set_option maxRecDepth 1000000 in
theorem sm_212_c4c287a0_ok : sv_valid sg sm_212_c4c287a0 := sv_main (S := []) (na := 3) (cut := []) (cs := []) (sp := []) (N := 1) sv_nv (by decide +kernel)
-- HungerDays$State.turnHealth(I)V (r40, 0)
def sm_213_0201e6df : sv_SM := (213, 1, 0, [.inr (some 40), .inl (2147483648, 2147483648, 0, 0, 0)], [], [(40, 2, 2)], [(none, [], [])])
set_option maxRecDepth 1000000 in
theorem sm_213_0201e6df_ok : sv_valid sg sm_213_0201e6df := sv_main (S := []) (na := 2) (cut := []) (cs := []) (sp := []) (N := 1) sv_nv (by decide +kernel)
-- HungerDays$State.whyNotEat(II)I (r40, [0,1], [0,3])
def sm_216_0e11092f : sv_SM := (216, 2, 0, [.inr (some 40), .inl (2147483648, 2147483649, 0, 0, 0), .inl (2147483648, 2147483651, 0, 0, 0)], [], [], [(some (.inl (2147483648, 2147483651, 0, 0, 0)), [], [])])
set_option maxRecDepth 1000000 in
theorem sm_216_0e11092f_ok : sv_valid sg sm_216_0e11092f := sv_main (S := [sm_207_6766dd99]) (na := 3) (cut := []) (cs := []) (sp := []) (N := 1) (sv_cv sm_207_6766dd99_ok sv_nv) (by decide +kernel)
-- HungerDays$State.takePortion(II)V (r40, [0,1], [0,3])
def sm_212_0e11092f : sv_SM := (212, 1, 0, [.inr (some 40), .inl (2147483648, 2147483649, 0, 0, 0), .inl (2147483648, 2147483651, 0, 0, 0)], [], [(41, 0, 1), (43, 0, 1), (44, 0, 3)], [(none, [], [])])
set_option maxRecDepth 1000000 in
theorem sm_212_0e11092f_ok : sv_valid sg sm_212_0e11092f := sv_main (S := []) (na := 3) (cut := []) (cs := []) (sp := []) (N := 1) sv_nv (by decide +kernel)
-- HungerDays$State.turnHealth(I)V (r40, [0,1])
def sm_213_6766dd99 : sv_SM := (213, 1, 0, [.inr (some 40), .inl (2147483648, 2147483649, 0, 0, 0)], [], [(40, 2, 2)], [(none, [], [])])
set_option maxRecDepth 1000000 in
theorem sm_213_6766dd99_ok : sv_valid sg sm_213_6766dd99 := sv_main (S := []) (na := 2) (cut := []) (cs := []) (sp := []) (N := 1) sv_nv (by decide +kernel)
-- HungerDays$State.whyNotEat(II)I (r40, [0,2], [0,3])
def sm_216_5926a1a2 : sv_SM := (216, 2, 0, [.inr (some 40), .inl (2147483648, 2147483650, 0, 0, 0), .inl (2147483648, 2147483651, 0, 0, 0)], [], [], [(some (.inl (2147483648, 2147483651, 0, 0, 0)), [], [])])
set_option maxRecDepth 1000000 in
theorem sm_216_5926a1a2_ok : sv_valid sg sm_216_5926a1a2 := sv_main (S := [sm_207_0000b3f3]) (na := 3) (cut := []) (cs := []) (sp := []) (N := 1) (sv_cv sm_207_0000b3f3_ok sv_nv) (by decide +kernel)
-- HungerDays$State.takePortion(II)V (r40, [0,2], [0,3])
def sm_212_5926a1a2 : sv_SM := (212, 1, 0, [.inr (some 40), .inl (2147483648, 2147483650, 0, 0, 0), .inl (2147483648, 2147483651, 0, 0, 0)], [], [(41, 0, 2), (43, 0, 2), (44, 0, 3)], [(none, [], [])])
set_option maxRecDepth 1000000 in
theorem sm_212_5926a1a2_ok : sv_valid sg sm_212_5926a1a2 := sv_main (S := []) (na := 3) (cut := []) (cs := []) (sp := []) (N := 1) sv_nv (by decide +kernel)
-- HungerDays$State.turnHealth(I)V (r40, [0,2])
def sm_213_0000b3f3 : sv_SM := (213, 1, 0, [.inr (some 40), .inl (2147483648, 2147483650, 0, 0, 0)], [], [(40, 2, 2)], [(none, [], [])])
set_option maxRecDepth 1000000 in
theorem sm_213_0000b3f3_ok : sv_valid sg sm_213_0000b3f3 := sv_main (S := []) (na := 2) (cut := []) (cs := []) (sp := []) (N := 1) sv_nv (by decide +kernel)
-- HungerDays$State.whyNotEat(II)I (r40, [0,3], [0,3])
def sm_216_93f52f2d : sv_SM := (216, 2, 0, [.inr (some 40), .inl (2147483648, 2147483651, 0, 0, 0), .inl (2147483648, 2147483651, 0, 0, 0)], [], [], [(some (.inl (2147483648, 2147483651, 0, 0, 0)), [], [])])
set_option maxRecDepth 1000000 in
theorem sm_216_93f52f2d_ok : sv_valid sg sm_216_93f52f2d := sv_main (S := [sm_207_656788b5]) (na := 3) (cut := []) (cs := []) (sp := []) (N := 1) (sv_cv sm_207_656788b5_ok sv_nv) (by decide +kernel)
-- HungerDays$State.takePortion(II)V (r40, [0,3], [0,3])
def sm_212_93f52f2d : sv_SM := (212, 1, 0, [.inr (some 40), .inl (2147483648, 2147483651, 0, 0, 0), .inl (2147483648, 2147483651, 0, 0, 0)], [], [(41, 0, 3), (43, 0, 3), (44, 0, 3)], [(none, [], [])])
set_option maxRecDepth 1000000 in
theorem sm_212_93f52f2d_ok : sv_valid sg sm_212_93f52f2d := sv_main (S := []) (na := 3) (cut := []) (cs := []) (sp := []) (N := 1) sv_nv (by decide +kernel)
-- HungerDays$State.turnHealth(I)V (r40, [0,3])
def sm_213_656788b5 : sv_SM := (213, 1, 0, [.inr (some 40), .inl (2147483648, 2147483651, 0, 0, 0)], [], [(40, 2, 2)], [(none, [], [])])
set_option maxRecDepth 1000000 in
theorem sm_213_656788b5_ok : sv_valid sg sm_213_656788b5 := sv_main (S := []) (na := 2) (cut := []) (cs := []) (sp := []) (N := 1) sv_nv (by decide +kernel)
-- HungerDays$State.whyNotEat(II)I (r40, [0,4], [0,3])
def sm_216_17f0bafd : sv_SM := (216, 2, 0, [.inr (some 40), .inl (2147483648, 2147483652, 0, 0, 0), .inl (2147483648, 2147483651, 0, 0, 0)], [], [], [(some (.inl (2147483648, 2147483651, 0, 0, 0)), [], [])])
set_option maxRecDepth 1000000 in
theorem sm_216_17f0bafd_ok : sv_valid sg sm_216_17f0bafd := sv_main (S := [sm_207_cacec57f]) (na := 3) (cut := []) (cs := []) (sp := []) (N := 1) (sv_cv sm_207_cacec57f_ok sv_nv) (by decide +kernel)
-- HungerDays$State.takePortion(II)V (r40, [0,4], [0,3])
def sm_212_17f0bafd : sv_SM := (212, 1, 0, [.inr (some 40), .inl (2147483648, 2147483652, 0, 0, 0), .inl (2147483648, 2147483651, 0, 0, 0)], [], [(41, 0, 4), (43, 0, 4), (44, 0, 3)], [(none, [], [])])
set_option maxRecDepth 1000000 in
theorem sm_212_17f0bafd_ok : sv_valid sg sm_212_17f0bafd := sv_main (S := []) (na := 3) (cut := []) (cs := []) (sp := []) (N := 1) sv_nv (by decide +kernel)
-- HungerDays$State.turnHealth(I)V (r40, [0,4])
def sm_213_cacec57f : sv_SM := (213, 1, 0, [.inr (some 40), .inl (2147483648, 2147483652, 0, 0, 0)], [], [(40, 2, 2)], [(none, [], [])])
set_option maxRecDepth 1000000 in
theorem sm_213_cacec57f_ok : sv_valid sg sm_213_cacec57f := sv_main (S := []) (na := 2) (cut := []) (cs := []) (sp := []) (N := 1) sv_nv (by decide +kernel)
-- HungerDays$State.whyNotEat(II)I (r40, [0,5], [0,3])
def sm_216_dd233472 : sv_SM := (216, 2, 0, [.inr (some 40), .inl (2147483648, 2147483653, 0, 0, 0), .inl (2147483648, 2147483651, 0, 0, 0)], [], [], [(some (.inl (2147483648, 2147483651, 0, 0, 0)), [], [])])
set_option maxRecDepth 1000000 in
theorem sm_216_dd233472_ok : sv_valid sg sm_216_dd233472 := sv_main (S := [sm_207_afa9fe39]) (na := 3) (cut := []) (cs := []) (sp := []) (N := 1) (sv_cv sm_207_afa9fe39_ok sv_nv) (by decide +kernel)
-- HungerDays$State.turnHealth(I)V (r40, [0,5])
def sm_213_afa9fe39 : sv_SM := (213, 1, 0, [.inr (some 40), .inl (2147483648, 2147483653, 0, 0, 0)], [], [(40, 2, 2)], [(none, [], [])])
set_option maxRecDepth 1000000 in
theorem sm_213_afa9fe39_ok : sv_valid sg sm_213_afa9fe39 := sv_main (S := []) (na := 2) (cut := []) (cs := []) (sp := []) (N := 1) sv_nv (by decide +kernel)
-- HungerDays$Draws.drawPersons(LHungerDays$State;)V (r120, r40)
def sm_173_040c9ede : sv_SM := (173, 3, 0, [.inr (some 120), .inr (some 40)], [], [(40, 2, 2), (41, 0, 5), (43, 0, 5), (44, 0, 3), (120, 0, 0)], [(none, [], [])])
set_option maxRecDepth 1000000 in
theorem sm_173_040c9ede_ok : sv_valid sg sm_173_040c9ede := sv_main (S := [sm_172_85401614, sm_172_57044ed5, sm_216_dd233472, sm_212_dd233472, sm_213_afa9fe39]) (na := 2) (cut := [2]) (cs := [(2, 1, 1, 5, [some (.inr (some 120)), some (.inr (some 40)), some (.inl (2147483648, 2147483654, 0, 0, 0)), none, none], [], [])]) (sp := []) (N := 2) (sv_cv sm_172_85401614_ok (sv_cv sm_172_57044ed5_ok (sv_cv sm_216_dd233472_ok (sv_cv sm_212_dd233472_ok (sv_cv sm_213_afa9fe39_ok sv_nv))))) (by decide +kernel)
-- HungerDays$State.isDateOfEarlier(II)Z (r40, [MIN,MAX], 0)
def sm_205_66c0d23a : sv_SM := (205, 1, 0, [.inr (some 40), .inl (0, 4294967295, 0, 0, 0), .inl (2147483648, 2147483648, 0, 0, 0)], [], [], [(some (.inl (2147483648, 2147483648, 0, 0, 0)), [], [])])
set_option maxRecDepth 1000000 in
theorem sm_205_66c0d23a_ok : sv_valid sg sm_205_66c0d23a := sv_main (S := []) (na := 3) (cut := [2]) (cs := [(2, 1, 1, 0, [some (.inr (some 40)), some (.inl (0, 4294967295, 0, 0, 0)), some (.inl (2147483648, 2147483648, 0, 0, 0)), some (.inl (2147483648, 2147483648, 0, 0, 0))], [], [])]) (sp := []) (N := 2) sv_nv (by decide +kernel)
-- HungerDays$State.isDateOfEarlier(II)Z (r40, [MIN,MAX], [0,1])
def sm_205_03a7e97c : sv_SM := (205, 2, 0, [.inr (some 40), .inl (0, 4294967295, 0, 0, 0), .inl (2147483648, 2147483649, 0, 0, 0)], [], [], [(some (.inl (2147483649, 2147483649, 0, 0, 0)), [.inr (some 40), .inl (0, 4294967295, 0, 0, 0), .inl (2147483649, 2147483649, 0, 0, 0)], []), (some (.inl (2147483648, 2147483648, 0, 0, 0)), [], [])])
set_option maxRecDepth 1000000 in
theorem sm_205_03a7e97c_ok : sv_valid sg sm_205_03a7e97c := sv_main (S := [sm_201_a5eabeff]) (na := 3) (cut := [2]) (cs := [(2, 1, 1, 7, [some (.inr (some 40)), some (.inl (0, 4294967295, 0, 0, 0)), some (.inl (2147483648, 2147483649, 0, 0, 0)), some (.inl (2147483648, 2147483649, 0, 0, 0))], [], [])]) (sp := []) (N := 2) (sv_cv sm_201_a5eabeff_ok sv_nv) (by decide +kernel)
-- HungerDays$State.isDateOfEarlier(II)Z (r40, [MIN,MAX], [0,2])
def sm_205_64c18716 : sv_SM := (205, 2, 0, [.inr (some 40), .inl (0, 4294967295, 0, 0, 0), .inl (2147483648, 2147483650, 0, 0, 0)], [], [], [(some (.inl (2147483649, 2147483649, 0, 0, 0)), [.inr (some 40), .inl (0, 4294967295, 0, 0, 0), .inl (2147483649, 2147483650, 0, 0, 0)], []), (some (.inl (2147483648, 2147483648, 0, 0, 0)), [], [])])
set_option maxRecDepth 1000000 in
theorem sm_205_64c18716_ok : sv_valid sg sm_205_64c18716 := sv_main (S := [sm_201_a5eabeff]) (na := 3) (cut := [2]) (cs := [(2, 1, 1, 7, [some (.inr (some 40)), some (.inl (0, 4294967295, 0, 0, 0)), some (.inl (2147483648, 2147483650, 0, 0, 0)), some (.inl (2147483648, 2147483650, 0, 0, 0))], [], [])]) (sp := []) (N := 2) (sv_cv sm_201_a5eabeff_ok sv_nv) (by decide +kernel)
-- HungerDays$State.isDateOfEarlier(II)Z (r40, [MIN,MAX], [0,3])
def sm_205_01a6bc50 : sv_SM := (205, 2, 0, [.inr (some 40), .inl (0, 4294967295, 0, 0, 0), .inl (2147483648, 2147483651, 0, 0, 0)], [], [], [(some (.inl (2147483649, 2147483649, 0, 0, 0)), [.inr (some 40), .inl (0, 4294967295, 0, 0, 0), .inl (2147483649, 2147483651, 0, 0, 0)], []), (some (.inl (2147483648, 2147483648, 0, 0, 0)), [], [])])
set_option maxRecDepth 1000000 in
theorem sm_205_01a6bc50_ok : sv_valid sg sm_205_01a6bc50 := sv_main (S := [sm_201_a5eabeff]) (na := 3) (cut := [2]) (cs := [(2, 1, 1, 7, [some (.inr (some 40)), some (.inl (0, 4294967295, 0, 0, 0)), some (.inl (2147483648, 2147483651, 0, 0, 0)), some (.inl (2147483648, 2147483651, 0, 0, 0))], [], [])]) (sp := []) (N := 2) (sv_cv sm_201_a5eabeff_ok sv_nv) (by decide +kernel)
-- HungerDays$State.isDateOfEarlier(II)Z (r40, [MIN,MAX], [0,4])
def sm_205_ae0ff19a : sv_SM := (205, 2, 0, [.inr (some 40), .inl (0, 4294967295, 0, 0, 0), .inl (2147483648, 2147483652, 0, 0, 0)], [], [], [(some (.inl (2147483649, 2147483649, 0, 0, 0)), [.inr (some 40), .inl (0, 4294967295, 0, 0, 0), .inl (2147483649, 2147483652, 0, 0, 0)], []), (some (.inl (2147483648, 2147483648, 0, 0, 0)), [], [])])
set_option maxRecDepth 1000000 in
theorem sm_205_ae0ff19a_ok : sv_valid sg sm_205_ae0ff19a := sv_main (S := [sm_201_a5eabeff]) (na := 3) (cut := [2]) (cs := [(2, 1, 1, 7, [some (.inr (some 40)), some (.inl (0, 4294967295, 0, 0, 0)), some (.inl (2147483648, 2147483652, 0, 0, 0)), some (.inl (2147483648, 2147483652, 0, 0, 0))], [], [])]) (sp := []) (N := 2) (sv_cv sm_201_a5eabeff_ok sv_nv) (by decide +kernel)
-- HungerDays$State.isDateOfEarlier(II)Z (r40, [MIN,MAX], [0,5])
def sm_205_cb68cadc : sv_SM := (205, 2, 0, [.inr (some 40), .inl (0, 4294967295, 0, 0, 0), .inl (2147483648, 2147483653, 0, 0, 0)], [], [], [(some (.inl (2147483649, 2147483649, 0, 0, 0)), [.inr (some 40), .inl (0, 4294967295, 0, 0, 0), .inl (2147483649, 2147483653, 0, 0, 0)], []), (some (.inl (2147483648, 2147483648, 0, 0, 0)), [], [])])
set_option maxRecDepth 1000000 in
theorem sm_205_cb68cadc_ok : sv_valid sg sm_205_cb68cadc := sv_main (S := [sm_201_a5eabeff]) (na := 3) (cut := [2]) (cs := [(2, 1, 1, 7, [some (.inr (some 40)), some (.inl (0, 4294967295, 0, 0, 0)), some (.inl (2147483648, 2147483653, 0, 0, 0)), some (.inl (2147483648, 2147483653, 0, 0, 0))], [], [])]) (sp := []) (N := 2) (sv_cv sm_201_a5eabeff_ok sv_nv) (by decide +kernel)
-- HungerDays$State.unlikeDates(I)I (r40, [MIN,MAX])
def sm_214_04b53a84 : sv_SM := (214, 3, 0, [.inr (some 40), .inl (0, 4294967295, 0, 0, 0)], [], [], [(some (.inl (0, 4294967295, 0, 0, 0)), [], [])])
set_option maxRecDepth 1000000 in
theorem sm_214_04b53a84_ok : sv_valid sg sm_214_04b53a84 := sv_main (S := [sm_205_cb68cadc]) (na := 2) (cut := [4]) (cs := [(4, 1, 1, 7, [some (.inr (some 40)), some (.inl (0, 4294967295, 0, 0, 0)), some (.inl (0, 4294967295, 0, 0, 0)), some (.inl (2147483648, 2147483654, 0, 0, 0))], [], [])]) (sp := []) (N := 2) (sv_cv sm_205_cb68cadc_ok sv_nv) (by decide +kernel)
-- HungerDays$State.whyNotMeet(I)I (r40, 0)
def sm_217_0201e6df : sv_SM := (217, 4, 0, [.inr (some 40), .inl (2147483648, 2147483648, 0, 0, 0)], [], [], [(some (.inl (2147483648, 2147483651, 0, 0, 0)), [], [])])
set_option maxRecDepth 1000000 in
theorem sm_217_0201e6df_ok : sv_valid sg sm_217_0201e6df := sv_main (S := [sm_214_04b53a84]) (na := 2) (cut := []) (cs := []) (sp := []) (N := 1) (sv_cv sm_214_04b53a84_ok sv_nv) (by decide +kernel)
-- HungerDays$State.hold(I)V (r40, 0)
def sm_203_0201e6df : sv_SM := (203, 1, 0, [.inr (some 40), .inl (2147483648, 2147483648, 0, 0, 0)], [], [(45, 0, 0)], [(none, [], [])])
set_option maxRecDepth 1000000 in
theorem sm_203_0201e6df_ok : sv_valid sg sm_203_0201e6df := sv_main (S := []) (na := 2) (cut := []) (cs := []) (sp := []) (N := 1) sv_nv (by decide +kernel)
-- HungerDays$State.whyNotMeet(I)I (r40, [0,1])
def sm_217_6766dd99 : sv_SM := (217, 4, 0, [.inr (some 40), .inl (2147483648, 2147483649, 0, 0, 0)], [], [], [(some (.inl (2147483648, 2147483651, 0, 0, 0)), [], [])])
set_option maxRecDepth 1000000 in
theorem sm_217_6766dd99_ok : sv_valid sg sm_217_6766dd99 := sv_main (S := [sm_214_04b53a84]) (na := 2) (cut := []) (cs := []) (sp := []) (N := 1) (sv_cv sm_214_04b53a84_ok sv_nv) (by decide +kernel)
-- HungerDays$State.hold(I)V (r40, [0,1])
def sm_203_6766dd99 : sv_SM := (203, 1, 0, [.inr (some 40), .inl (2147483648, 2147483649, 0, 0, 0)], [], [(45, 0, 1)], [(none, [], [])])
set_option maxRecDepth 1000000 in
theorem sm_203_6766dd99_ok : sv_valid sg sm_203_6766dd99 := sv_main (S := []) (na := 2) (cut := []) (cs := []) (sp := []) (N := 1) sv_nv (by decide +kernel)
-- HungerDays$State.whyNotMeet(I)I (r40, [0,2])
def sm_217_0000b3f3 : sv_SM := (217, 4, 0, [.inr (some 40), .inl (2147483648, 2147483650, 0, 0, 0)], [], [], [(some (.inl (2147483648, 2147483651, 0, 0, 0)), [], [])])
set_option maxRecDepth 1000000 in
theorem sm_217_0000b3f3_ok : sv_valid sg sm_217_0000b3f3 := sv_main (S := [sm_214_04b53a84]) (na := 2) (cut := []) (cs := []) (sp := []) (N := 1) (sv_cv sm_214_04b53a84_ok sv_nv) (by decide +kernel)
-- HungerDays$State.hold(I)V (r40, [0,2])
def sm_203_0000b3f3 : sv_SM := (203, 1, 0, [.inr (some 40), .inl (2147483648, 2147483650, 0, 0, 0)], [], [(45, 0, 2)], [(none, [], [])])
set_option maxRecDepth 1000000 in
theorem sm_203_0000b3f3_ok : sv_valid sg sm_203_0000b3f3 := sv_main (S := []) (na := 2) (cut := []) (cs := []) (sp := []) (N := 1) sv_nv (by decide +kernel)
-- HungerDays$State.whyNotMeet(I)I (r40, [0,3])
def sm_217_656788b5 : sv_SM := (217, 4, 0, [.inr (some 40), .inl (2147483648, 2147483651, 0, 0, 0)], [], [], [(some (.inl (2147483648, 2147483651, 0, 0, 0)), [], [])])
set_option maxRecDepth 1000000 in
theorem sm_217_656788b5_ok : sv_valid sg sm_217_656788b5 := sv_main (S := [sm_214_04b53a84]) (na := 2) (cut := []) (cs := []) (sp := []) (N := 1) (sv_cv sm_214_04b53a84_ok sv_nv) (by decide +kernel)
-- HungerDays$State.hold(I)V (r40, [0,3])
def sm_203_656788b5 : sv_SM := (203, 1, 0, [.inr (some 40), .inl (2147483648, 2147483651, 0, 0, 0)], [], [(45, 0, 3)], [(none, [], [])])
set_option maxRecDepth 1000000 in
theorem sm_203_656788b5_ok : sv_valid sg sm_203_656788b5 := sv_main (S := []) (na := 2) (cut := []) (cs := []) (sp := []) (N := 1) sv_nv (by decide +kernel)
-- HungerDays$State.whyNotMeet(I)I (r40, [0,4])
def sm_217_cacec57f : sv_SM := (217, 4, 0, [.inr (some 40), .inl (2147483648, 2147483652, 0, 0, 0)], [], [], [(some (.inl (2147483648, 2147483651, 0, 0, 0)), [], [])])
set_option maxRecDepth 1000000 in
theorem sm_217_cacec57f_ok : sv_valid sg sm_217_cacec57f := sv_main (S := [sm_214_04b53a84]) (na := 2) (cut := []) (cs := []) (sp := []) (N := 1) (sv_cv sm_214_04b53a84_ok sv_nv) (by decide +kernel)
-- HungerDays$State.hold(I)V (r40, [0,4])
def sm_203_cacec57f : sv_SM := (203, 1, 0, [.inr (some 40), .inl (2147483648, 2147483652, 0, 0, 0)], [], [(45, 0, 4)], [(none, [], [])])
set_option maxRecDepth 1000000 in
theorem sm_203_cacec57f_ok : sv_valid sg sm_203_cacec57f := sv_main (S := []) (na := 2) (cut := []) (cs := []) (sp := []) (N := 1) sv_nv (by decide +kernel)
-- HungerDays$State.whyNotMeet(I)I (r40, [0,5])
def sm_217_afa9fe39 : sv_SM := (217, 4, 0, [.inr (some 40), .inl (2147483648, 2147483653, 0, 0, 0)], [], [], [(some (.inl (2147483648, 2147483651, 0, 0, 0)), [], [])])
set_option maxRecDepth 1000000 in
theorem sm_217_afa9fe39_ok : sv_valid sg sm_217_afa9fe39 := sv_main (S := [sm_214_04b53a84]) (na := 2) (cut := []) (cs := []) (sp := []) (N := 1) (sv_cv sm_214_04b53a84_ok sv_nv) (by decide +kernel)
-- HungerDays$State.hold(I)V (r40, [0,5])
def sm_203_afa9fe39 : sv_SM := (203, 1, 0, [.inr (some 40), .inl (2147483648, 2147483653, 0, 0, 0)], [], [(45, 0, 5)], [(none, [], [])])
set_option maxRecDepth 1000000 in
theorem sm_203_afa9fe39_ok : sv_valid sg sm_203_afa9fe39 := sv_main (S := []) (na := 2) (cut := []) (cs := []) (sp := []) (N := 1) sv_nv (by decide +kernel)
-- HungerDays$Draws.holdMeetings(LHungerDays$State;)V (r40)
def sm_174_a0678127 : sv_SM := (174, 5, 0, [.inr (some 40)], [], [(45, 0, 5)], [(none, [], [])])
set_option maxRecDepth 1000000 in
theorem sm_174_a0678127_ok : sv_valid sg sm_174_a0678127 := sv_main (S := [sm_217_afa9fe39, sm_203_afa9fe39]) (na := 1) (cut := [2]) (cs := [(2, 1, 1, 3, [some (.inr (some 40)), some (.inl (2147483648, 2147483654, 0, 0, 0))], [], [])]) (sp := []) (N := 2) (sv_cv sm_217_afa9fe39_ok (sv_cv sm_203_afa9fe39_ok sv_nv)) (by decide +kernel)
-- HungerDays$Draws.passHours(LHungerDays$State;II)I (r120, r40, 20, [MIN,MAX])
def sm_175_3fd8a223 : sv_SM := (175, 6, 0, [.inr (some 120), .inr (some 40), .inl (2147483668, 2147483668, 0, 0, 0), .inl (0, 4294967295, 0, 0, 0)], [], [(40, 1, 3), (41, 0, 5), (42, 0, 5), (43, 0, 5), (44, 0, 3), (45, 0, 5), (46, 0, 9), (120, 0, 0)], [(some (.inl (2147483648, 2147483668, 0, 0, 0)), [], [])])
set_option maxRecDepth 1000000 in
theorem sm_175_3fd8a223_ok : sv_valid sg sm_175_3fd8a223 := sv_main (S := [sm_76_a0678127, sm_173_040c9ede, sm_174_a0678127, sm_78_a0678127]) (na := 4) (cut := [8]) (cs := [(8, 1, 1, 9, [some (.inr (some 120)), some (.inr (some 40)), some (.inl (2147483668, 2147483668, 0, 0, 0)), some (.inl (0, 4294967295, 0, 0, 0)), some (.inl (2147483648, 2147483668, 0, 0, 0))], [], [])]) (sp := []) (N := 2) (sv_cv sm_76_a0678127_ok (sv_cv sm_173_040c9ede_ok (sv_cv sm_174_a0678127_ok (sv_cv sm_78_a0678127_ok sv_nv)))) (by decide +kernel)
-- HungerDays.odds(III)I (r0, [MIN,MAX], [MIN,MAX], [MIN,MAX])
def sm_31_1288ad07 : sv_SM := (31, 7, 0, [.inr (some 0), .inl (0, 4294967295, 0, 0, 0), .inl (0, 4294967295, 0, 0, 0), .inl (0, 4294967295, 0, 0, 0)], [], [(40, 1, 3), (41, 0, 15), (42, 0, 15), (43, 0, 15), (44, 0, 15), (45, 0, 15), (46, 0, 15), (120, 0, 0)], [(some (.inl (2147483647, 2147483647, 0, 0, 0)), [], []), (some (.inl (0, 4294967295, 0, 0, 0)), [.inr (some 0), .inl (2147483648, 2147483653, 0, 0, 0), .inl (2147483649, 2147483678, 0, 0, 0)], [])])
set_option maxRecDepth 1000000 in
theorem sm_31_1288ad07_ok : sv_valid sg sm_31_1288ad07 := sv_main (S := [sm_22_ef2370ea, sm_72_c5eb5496, sm_175_3fd8a223]) (na := 4) (cut := [37]) (cs := [(37, 1, 1, 11, [some (.inr (some 0)), some (.inl (2147483648, 2147483653, 0, 0, 0)), some (.inl (2147483649, 2147483678, 0, 0, 0)), some (.inl (0, 4294967295, 0, 0, 0)), some (.inl (0, 4294967295, 0, 0, 0)), some (.inl (2147483648, 2147483678, 0, 0, 0))], [], [])]) (sp := []) (N := 2) (sv_cv sm_22_ef2370ea_ok (sv_cv sm_72_c5eb5496_ok (sv_cv sm_175_3fd8a223_ok sv_nv))) (by decide +kernel)
-- HungerDays$State.personsOf(I)I (r33, [0,199])
def sm_80_f6090ae8 : sv_SM := (80, 2, 0, [.inr (some 33), .inl (2147483648, 2147483847, 0, 0, 0)], [], [], [(some (.inl (0, 4294967295, 0, 0, 0)), [], [])])
set_option maxRecDepth 1000000 in
theorem sm_80_f6090ae8_ok : sv_valid sg sm_80_f6090ae8 := sv_main (S := [sm_201_2d17ef67]) (na := 2) (cut := [4]) (cs := [(4, 1, 1, 7, [some (.inr (some 33)), some (.inl (2147483648, 2147483847, 0, 0, 0)), some (.inl (0, 4294967295, 0, 0, 0)), some (.inl (2147483648, 2147483654, 0, 0, 0))], [], [])]) (sp := []) (N := 2) (sv_cv sm_201_2d17ef67_ok sv_nv) (by decide +kernel)
-- HungerDays.on(I)I (r0, [MIN,MAX])
def sm_32_ef2370ea : sv_SM := (32, 3, 0, [.inr (some 0), .inl (0, 4294967295, 0, 0, 0)], [], [], [(some (.inl (2147483647, 2147483647, 0, 0, 0)), [], []), (some (.inl (0, 4294967295, 0, 0, 0)), [.inr (some 0), .inl (2147483648, 2147483847, 0, 0, 0)], [])])
set_option maxRecDepth 1000000 in
theorem sm_32_ef2370ea_ok : sv_valid sg sm_32_ef2370ea := sv_main (S := [sm_18_94ac37e7, sm_80_f6090ae8]) (na := 2) (cut := []) (cs := []) (sp := []) (N := 1) (sv_cv sm_18_94ac37e7_ok (sv_cv sm_80_f6090ae8_ok sv_nv)) (by decide +kernel)
-- HungerDays.isDebt(I)Z (r0, [MIN,MAX])
def sm_19_ef2370ea : sv_SM := (19, 1, 0, [.inr (some 0), .inl (0, 4294967295, 0, 0, 0)], [], [], [(some (.inl (2147483649, 2147483649, 0, 0, 0)), [.inr (some 0), .inl (2147483648, 2147483657, 0, 0, 0)], []), (some (.inl (2147483648, 2147483648, 0, 0, 0)), [], [])])
set_option maxRecDepth 1000000 in
theorem sm_19_ef2370ea_ok : sv_valid sg sm_19_ef2370ea := sv_main (S := []) (na := 2) (cut := []) (cs := []) (sp := []) (N := 1) sv_nv (by decide +kernel)
-- HungerDays.paid(I)I (r0, [MIN,MAX])
def sm_34_ef2370ea : sv_SM := (34, 4, 0, [.inr (some 0), .inl (0, 4294967295, 0, 0, 0)], [], [(40, 1, 3), (41, 0, 15), (42, 0, 15), (43, 0, 15), (44, 0, 15), (45, 0, 15), (46, 0, 15)], [(some (.inl (2147483647, 2147483647, 0, 0, 0)), [], []), (some (.inl (0, 4294967295, 0, 0, 0)), [.inr (some 0), .inl (2147483648, 2147483657, 0, 0, 0)], [])])
set_option maxRecDepth 1000000 in
theorem sm_34_ef2370ea_ok : sv_valid sg sm_34_ef2370ea := sv_main (S := [sm_19_ef2370ea, sm_72_c5eb5496, sm_76_a0678127, sm_78_a0678127]) (na := 2) (cut := [36]) (cs := [(36, 1, 1, 5, [some (.inr (some 0)), some (.inl (2147483648, 2147483657, 0, 0, 0)), some (.inl (2147483648, 2147484248, 0, 0, 0))], [], [])]) (sp := []) (N := 2) (sv_cv sm_19_ef2370ea_ok (sv_cv sm_72_c5eb5496_ok (sv_cv sm_76_a0678127_ok (sv_cv sm_78_a0678127_ok sv_nv)))) (by decide +kernel)
-- HungerDays$Table.plateOf(I)I (r121, [0,5])
def sm_224_f85d8600 : sv_SM := (224, 1, 0, [.inr (some 121), .inl (2147483648, 2147483653, 0, 0, 0)], [], [], [(some (.inl (0, 4294967295, 0, 0, 0)), [], []), (some (.inl (2147483647, 2147483647, 0, 0, 0)), [], [])])
set_option maxRecDepth 1000000 in
theorem sm_224_f85d8600_ok : sv_valid sg sm_224_f85d8600 := sv_main (S := []) (na := 2) (cut := []) (cs := []) (sp := []) (N := 1) sv_nv (by decide +kernel)
-- HungerDays.plate(I)I (r0, [MIN,MAX])
def sm_35_ef2370ea : sv_SM := (35, 2, 0, [.inr (some 0), .inl (0, 4294967295, 0, 0, 0)], [], [], [(some (.inl (2147483647, 2147483647, 0, 0, 0)), [], []), (some (.inl (0, 4294967295, 0, 0, 0)), [.inr (some 0), .inl (2147483648, 2147483653, 0, 0, 0)], [])])
set_option maxRecDepth 1000000 in
theorem sm_35_ef2370ea_ok : sv_valid sg sm_35_ef2370ea := sv_main (S := [sm_23_ef2370ea, sm_224_f85d8600]) (na := 2) (cut := []) (cs := []) (sp := []) (N := 1) (sv_cv sm_23_ef2370ea_ok (sv_cv sm_224_f85d8600_ok sv_nv)) (by decide +kernel)
-- HungerDays$Valley.copyFrom(LHungerDays$Valley;)V (r4, r158)
def sm_85_3e89306b : sv_SM := (85, 1, 0, [.inr (some 4), .inr (some 158)], [], [(4, 0, 6), (5, 0, 15), (6, 0, 15), (7, 0, 15), (8, 0, 15), (9, 0, 15), (10, 0, 15), (11, 0, 15), (12, 0, 15), (13, 0, 15), (14, 0, 15), (15, 0, 15), (16, 0, 15), (17, 0, 15)], [(none, [], [])])
set_option maxRecDepth 1000000 in
theorem sm_85_3e89306b_ok : sv_valid sg sm_85_3e89306b := sv_main (S := []) (na := 2) (cut := []) (cs := []) (sp := []) (N := 1) sv_nv (by decide +kernel)
-- HungerDays$State.copyFrom(LHungerDays$State;)V (r33, r172)
def sm_72_5ec8956d : sv_SM := (72, 1, 0, [.inr (some 33), .inr (some 172)], [], [(33, 1, 3), (34, 0, 15), (35, 0, 15), (36, 0, 15), (37, 0, 15), (38, 0, 15), (39, 0, 15)], [(none, [], [])])
set_option maxRecDepth 1000000 in
theorem sm_72_5ec8956d_ok : sv_valid sg sm_72_5ec8956d := sv_main (S := []) (na := 2) (cut := []) (cs := []) (sp := []) (N := 1) sv_nv (by decide +kernel)
-- HungerDays$Sentence.copyFrom(LHungerDays$Sentence;)V (r106, r179)
def sm_65_7cce58d6 : sv_SM := (65, 1, 0, [.inr (some 106), .inr (some 179)], [], [(106, 0, 1), (107, 0, 47), (108, 0, 47), (109, 0, 47)], [(none, [], [])])
set_option maxRecDepth 1000000 in
theorem sm_65_7cce58d6_ok : sv_valid sg sm_65_7cce58d6 := sv_main (S := []) (na := 2) (cut := []) (cs := []) (sp := []) (N := 1) sv_nv (by decide +kernel)
-- HungerDays$History.forget()V (r47)
def sm_53_895c94a4 : sv_SM := (53, 1, 0, [.inr (some 47)], [], [(47, 2, 2)], [(none, [], [])])
set_option maxRecDepth 1000000 in
theorem sm_53_895c94a4_ok : sv_valid sg sm_53_895c94a4 := sv_main (S := []) (na := 1) (cut := []) (cs := []) (sp := []) (N := 1) sv_nv (by decide +kernel)
-- HungerDays$Valley.copyFrom(LHungerDays$Valley;)V (r4, r131)
def sm_85_aaf9ab0e : sv_SM := (85, 1, 0, [.inr (some 4), .inr (some 131)], [], [(4, 0, 6), (5, 0, 15), (6, 0, 15), (7, 0, 15), (8, 0, 15), (9, 0, 15), (10, 0, 15), (11, 0, 15), (12, 0, 15), (13, 0, 15), (14, 0, 15), (15, 0, 15), (16, 0, 15), (17, 0, 15)], [(none, [], [])])
set_option maxRecDepth 1000000 in
theorem sm_85_aaf9ab0e_ok : sv_valid sg sm_85_aaf9ab0e := sv_main (S := []) (na := 2) (cut := []) (cs := []) (sp := []) (N := 1) sv_nv (by decide +kernel)
-- HungerDays$State.copyFrom(LHungerDays$State;)V (r33, r145)
def sm_72_006d521e : sv_SM := (72, 1, 0, [.inr (some 33), .inr (some 145)], [], [(33, 1, 3), (34, 0, 15), (35, 0, 15), (36, 0, 15), (37, 0, 15), (38, 0, 15), (39, 0, 15)], [(none, [], [])])
set_option maxRecDepth 1000000 in
theorem sm_72_006d521e_ok : sv_valid sg sm_72_006d521e := sv_main (S := []) (na := 2) (cut := []) (cs := []) (sp := []) (N := 1) sv_nv (by decide +kernel)
-- HungerDays$Sentence.copyFrom(LHungerDays$Sentence;)V (r106, r152)
def sm_65_b3d4410d : sv_SM := (65, 1, 0, [.inr (some 106), .inr (some 152)], [], [(106, 0, 1), (107, 0, 47), (108, 0, 47), (109, 0, 47)], [(none, [], [])])
set_option maxRecDepth 1000000 in
theorem sm_65_b3d4410d_ok : sv_valid sg sm_65_b3d4410d := sv_main (S := []) (na := 2) (cut := []) (cs := []) (sp := []) (N := 1) sv_nv (by decide +kernel)
-- HungerDays.restore(I)Z (r0, [MIN,MAX])
def sm_37_ef2370ea : sv_SM := (37, 2, 0, [.inr (some 0), .inl (0, 4294967295, 0, 0, 0)], [], [(4, 0, 6), (5, 0, 15), (6, 0, 15), (7, 0, 15), (8, 0, 15), (9, 0, 15), (10, 0, 15), (11, 0, 15), (12, 0, 15), (13, 0, 15), (14, 0, 15), (15, 0, 15), (16, 0, 15), (17, 0, 15), (33, 1, 3), (34, 0, 15), (35, 0, 15), (36, 0, 15), (37, 0, 15), (38, 0, 15), (39, 0, 15), (47, 2, 2), (106, 0, 1), (107, 0, 47), (108, 0, 47), (109, 0, 47)], [(some (.inl (2147483648, 2147483648, 0, 0, 0)), [], []), (some (.inl (2147483649, 2147483649, 0, 0, 0)), [.inr (some 0), .inl (2147483648, 2147483649, 0, 0, 0)], [])])
set_option maxRecDepth 1000000 in
theorem sm_37_ef2370ea_ok : sv_valid sg sm_37_ef2370ea := sv_main (S := [sm_21_94ac37e7, sm_85_3e89306b, sm_72_5ec8956d, sm_65_7cce58d6, sm_53_895c94a4, sm_85_aaf9ab0e, sm_72_006d521e, sm_65_b3d4410d]) (na := 2) (cut := []) (cs := []) (sp := []) (N := 1) (sv_cv sm_21_94ac37e7_ok (sv_cv sm_85_3e89306b_ok (sv_cv sm_72_5ec8956d_ok (sv_cv sm_65_7cce58d6_ok (sv_cv sm_53_895c94a4_ok (sv_cv sm_85_aaf9ab0e_ok (sv_cv sm_72_006d521e_ok (sv_cv sm_65_b3d4410d_ok sv_nv)))))))) (by decide +kernel)
-- HungerDays$Sentence.pop()I (r106)
def sm_196_11501b45 : sv_SM := (196, 1, 0, [.inr (some 106)], [(1736710, 2147483648, 2147483688, 0, 0)], [(106, 6, 6)], [(some (.inl (0, 4294967295, 0, 0, 0)), [], [(1736710, 2147483648, 2147483687, 0, 0)])])
set_option maxRecDepth 1000000 in
theorem sm_196_11501b45_ok : sv_valid sg sm_196_11501b45 := sv_main (S := []) (na := 1) (cut := []) (cs := []) (sp := []) (N := 1) sv_nv (by decide +kernel)
-- HungerDays$Sentence.push(I)V (r106, [MIN,MAX])
def sm_197_7e2dd2ff : sv_SM := (197, 1, 0, [.inr (some 106), .inl (0, 4294967295, 0, 0, 0)], [(1736710, 2147483648, 2147483688, 0, 0)], [(106, 6, 6), (110, 0, 39)], [(none, [], [(1736710, 2147483649, 2147483688, 0, 0)])])
set_option maxRecDepth 1000000 in
theorem sm_197_7e2dd2ff_ok : sv_valid sg sm_197_7e2dd2ff := sv_main (S := []) (na := 2) (cut := []) (cs := []) (sp := []) (N := 1) sv_nv (by decide +kernel)
-- HungerDays$Sentence.compares(III)Z (0, [MIN,MAX], [MIN,MAX])
def sm_192_16870b35 : sv_SM := (192, 1, 0, [.inl (2147483648, 2147483648, 0, 0, 0), .inl (0, 4294967295, 0, 0, 0), .inl (0, 4294967295, 0, 0, 0)], [], [], [(some (.inl (2147483649, 2147483649, 0, 0, 0)), [], []), (some (.inl (2147483648, 2147483648, 0, 0, 0)), [], [])])
set_option maxRecDepth 1000000 in
theorem sm_192_16870b35_ok : sv_valid sg sm_192_16870b35 := sv_main (S := []) (na := 3) (cut := []) (cs := []) (sp := []) (N := 1) sv_nv (by decide +kernel)
-- HungerDays$Sentence.compares(III)Z ([MIN,MAX], [MIN,MAX], [MIN,MAX])
def sm_192_2aa6b7e5 : sv_SM := (192, 1, 0, [.inl (0, 4294967295, 0, 0, 0), .inl (0, 4294967295, 0, 0, 0), .inl (0, 4294967295, 0, 0, 0)], [], [], [(some (.inl (2147483649, 2147483649, 0, 0, 0)), [], []), (some (.inl (2147483648, 2147483648, 0, 0, 0)), [], [])])
set_option maxRecDepth 1000000 in
theorem sm_192_2aa6b7e5_ok : sv_valid sg sm_192_2aa6b7e5 := sv_main (S := []) (na := 3) (cut := []) (cs := []) (sp := []) (N := 1) sv_nv (by decide +kernel)
-- HungerDays$Reader.open(II)V (r2, [0,940], 200)
def sm_62_ede5cc43 : sv_SM := (62, 3, 0, [.inr (some 2), .inl (2147483648, 2147484588, 0, 0, 0), .inl (2147483848, 2147483848, 0, 0, 0)], [], [(2, 2, 12)], [(none, [], [])])
set_option maxRecDepth 1000000 in
theorem sm_62_ede5cc43_ok : sv_valid sg sm_62_ede5cc43 := sv_main (S := [sm_61_078b38e8]) (na := 3) (cut := []) (cs := []) (sp := []) (N := 1) (sv_cv sm_61_078b38e8_ok sv_nv) (by decide +kernel)
-- HungerDays.openTape(I)V (r0, 200)
def sm_33_31badf4e : sv_SM := (33, 4, 0, [.inr (some 0), .inl (2147483848, 2147483848, 0, 0, 0)], [], [(0, 1, 1), (2, 2, 12)], [(none, [], [])])
set_option maxRecDepth 1000000 in
theorem sm_33_31badf4e_ok : sv_valid sg sm_33_31badf4e := sv_main (S := [sm_62_ede5cc43]) (na := 2) (cut := []) (cs := []) (sp := []) (N := 1) (sv_cv sm_62_ede5cc43_ok sv_nv) (by decide +kernel)
-- HungerDays$Sentence.forget()V (r111)
def sm_66_d90483a1 : sv_SM := (66, 1, 0, [.inr (some 111)], [], [(111, 0, 1)], [(none, [], [])])
set_option maxRecDepth 1000000 in
theorem sm_66_d90483a1_ok : sv_valid sg sm_66_d90483a1 := sv_main (S := []) (na := 1) (cut := []) (cs := []) (sp := []) (N := 1) sv_nv (by decide +kernel)
-- HungerDays$Reader.isSign(I)Z (r2, 40)
def sm_60_114ee434 : sv_SM := (60, 1, 0, [.inr (some 2), .inl (2147483688, 2147483688, 0, 0, 0)], [], [], [(some (.inl (2147483649, 2147483649, 0, 0, 0)), [], []), (some (.inl (2147483648, 2147483648, 0, 0, 0)), [], [])])
set_option maxRecDepth 1000000 in
theorem sm_60_114ee434_ok : sv_valid sg sm_60_114ee434 := sv_main (S := []) (na := 2) (cut := []) (cs := []) (sp := []) (N := 1) sv_nv (by decide +kernel)
-- HungerDays$Sentence.addStep(III)Z (r111, 17, 0, -1)
def sm_191_53cdc637 : sv_SM := (191, 1, 0, [.inr (some 111), .inl (2147483665, 2147483665, 0, 0, 0), .inl (2147483648, 2147483648, 0, 0, 0), .inl (2147483647, 2147483647, 0, 0, 0)], [(1818625, 2147483648, 2147483688, 0, 0)], [], [(some (.inl (2147483648, 2147483648, 0, 0, 0)), [], [])])
set_option maxRecDepth 1000000 in
theorem sm_191_53cdc637_ok : sv_valid sg sm_191_53cdc637 := sv_main (S := []) (na := 4) (cut := []) (cs := []) (sp := []) (N := 1) sv_nv (by decide +kernel)
-- HungerDays$Sentence.addStep(III)Z (r111, 17, 0, [0,5])
def sm_191_eb1aa363 : sv_SM := (191, 1, 0, [.inr (some 111), .inl (2147483665, 2147483665, 0, 0, 0), .inl (2147483648, 2147483648, 0, 0, 0), .inl (2147483648, 2147483653, 0, 0, 0)], [(1818625, 2147483648, 2147483688, 0, 0)], [(111, 1, 1), (112, 0, 39), (113, 0, 39), (114, 0, 39)], [(some (.inl (2147483648, 2147483648, 0, 0, 0)), [], [(1818625, 2147483688, 2147483688, 0, 0)]), (some (.inl (2147483649, 2147483649, 0, 0, 0)), [], [(1818625, 2147483649, 2147483688, 0, 0)])])
set_option maxRecDepth 1000000 in
theorem sm_191_eb1aa363_ok : sv_valid sg sm_191_eb1aa363 := sv_main (S := []) (na := 4) (cut := []) (cs := []) (sp := []) (N := 1) sv_nv (by decide +kernel)
-- HungerDays$Reader.takeNamed(LHungerDays$Valley;I)I (r2, r4, 0)
def sm_188_2ede1899 : sv_SM := (188, 3, 0, [.inr (some 2), .inr (some 4), .inl (2147483648, 2147483648, 0, 0, 0)], [], [(2, 4, 12)], [(some (.inl (2147483648, 2147483653, 0, 0, 0)), [], []), (some (.inl (2147483647, 2147483647, 0, 0, 0)), [], [])])
set_option maxRecDepth 1000000 in
theorem sm_188_2ede1899_ok : sv_valid sg sm_188_2ede1899 := sv_main (S := [sm_186_2ede1899, sm_61_078b38e8]) (na := 3) (cut := []) (cs := []) (sp := []) (N := 1) (sv_cv sm_186_2ede1899_ok (sv_cv sm_61_078b38e8_ok sv_nv)) (by decide +kernel)
-- HungerDays$Sentence.addStep(III)Z (r111, 16, 0, -1)
def sm_191_cfe5d42d : sv_SM := (191, 1, 0, [.inr (some 111), .inl (2147483664, 2147483664, 0, 0, 0), .inl (2147483648, 2147483648, 0, 0, 0), .inl (2147483647, 2147483647, 0, 0, 0)], [(1818625, 2147483648, 2147483688, 0, 0)], [], [(some (.inl (2147483648, 2147483648, 0, 0, 0)), [], [])])
set_option maxRecDepth 1000000 in
theorem sm_191_cfe5d42d_ok : sv_valid sg sm_191_cfe5d42d := sv_main (S := []) (na := 4) (cut := []) (cs := []) (sp := []) (N := 1) sv_nv (by decide +kernel)
-- HungerDays$Sentence.addStep(III)Z (r111, 16, 0, [0,5])
def sm_191_7732b179 : sv_SM := (191, 1, 0, [.inr (some 111), .inl (2147483664, 2147483664, 0, 0, 0), .inl (2147483648, 2147483648, 0, 0, 0), .inl (2147483648, 2147483653, 0, 0, 0)], [(1818625, 2147483648, 2147483688, 0, 0)], [(111, 1, 1), (112, 0, 39), (113, 0, 39), (114, 0, 39)], [(some (.inl (2147483648, 2147483648, 0, 0, 0)), [], [(1818625, 2147483688, 2147483688, 0, 0)]), (some (.inl (2147483649, 2147483649, 0, 0, 0)), [], [(1818625, 2147483649, 2147483688, 0, 0)])])
set_option maxRecDepth 1000000 in
theorem sm_191_7732b179_ok : sv_valid sg sm_191_7732b179 := sv_main (S := []) (na := 4) (cut := []) (cs := []) (sp := []) (N := 1) sv_nv (by decide +kernel)
-- HungerDays$Sentence.addStep(III)Z (r111, 15, 0, 0)
def sm_191_988d602b : sv_SM := (191, 1, 0, [.inr (some 111), .inl (2147483663, 2147483663, 0, 0, 0), .inl (2147483648, 2147483648, 0, 0, 0), .inl (2147483648, 2147483648, 0, 0, 0)], [(1818625, 2147483648, 2147483688, 0, 0)], [(111, 1, 1), (112, 0, 39), (113, 0, 39), (114, 0, 39)], [(some (.inl (2147483648, 2147483648, 0, 0, 0)), [], [(1818625, 2147483688, 2147483688, 0, 0)]), (some (.inl (2147483649, 2147483649, 0, 0, 0)), [], [(1818625, 2147483649, 2147483688, 0, 0)])])
set_option maxRecDepth 1000000 in
theorem sm_191_988d602b_ok : sv_valid sg sm_191_988d602b := sv_main (S := []) (na := 4) (cut := []) (cs := []) (sp := []) (N := 1) sv_nv (by decide +kernel)
-- HungerDays$Sentence.addStep(III)Z (r111, 14, 0, 0)
def sm_191_04a57231 : sv_SM := (191, 1, 0, [.inr (some 111), .inl (2147483662, 2147483662, 0, 0, 0), .inl (2147483648, 2147483648, 0, 0, 0), .inl (2147483648, 2147483648, 0, 0, 0)], [(1818625, 2147483648, 2147483688, 0, 0)], [(111, 1, 1), (112, 0, 39), (113, 0, 39), (114, 0, 39)], [(some (.inl (2147483648, 2147483648, 0, 0, 0)), [], [(1818625, 2147483688, 2147483688, 0, 0)]), (some (.inl (2147483649, 2147483649, 0, 0, 0)), [], [(1818625, 2147483649, 2147483688, 0, 0)])])
set_option maxRecDepth 1000000 in
theorem sm_191_04a57231_ok : sv_valid sg sm_191_04a57231 := sv_main (S := []) (na := 4) (cut := []) (cs := []) (sp := []) (N := 1) sv_nv (by decide +kernel)
-- HungerDays$Sentence.readOne(LHungerDays$Reader;LHungerDays$Valley;I)Z (r111, r2, r4, 9)
def sm_69_f93a7d1d : sv_SM := (69, 2, 0, [.inr (some 111), .inr (some 2), .inr (some 4), .inl (2147483657, 2147483657, 0, 0, 0)], [], [(2, 11, 12)], [(some (.inl (2147483648, 2147483648, 0, 0, 0)), [], [])])
set_option maxRecDepth 1000000 in
theorem sm_69_f93a7d1d_ok : sv_valid sg sm_69_f93a7d1d := sv_main (S := [sm_60_114ee434, sm_63_b486a1fe, sm_63_05d71500]) (na := 4) (cut := []) (cs := []) (sp := []) (N := 1) (sv_cv sm_60_114ee434_ok (sv_cv sm_63_b486a1fe_ok (sv_cv sm_63_05d71500_ok sv_nv))) (by decide +kernel)
-- HungerDays$Reader.isSign(I)Z (r2, 60)
def sm_60_6bf3596d : sv_SM := (60, 1, 0, [.inr (some 2), .inl (2147483708, 2147483708, 0, 0, 0)], [], [], [(some (.inl (2147483649, 2147483649, 0, 0, 0)), [], []), (some (.inl (2147483648, 2147483648, 0, 0, 0)), [], [])])
set_option maxRecDepth 1000000 in
theorem sm_60_6bf3596d_ok : sv_valid sg sm_60_6bf3596d := sv_main (S := []) (na := 2) (cut := []) (cs := []) (sp := []) (N := 1) sv_nv (by decide +kernel)
-- HungerDays$Reader.isSign(I)Z (r2, 61)
def sm_60_ff4e6781 : sv_SM := (60, 1, 0, [.inr (some 2), .inl (2147483709, 2147483709, 0, 0, 0)], [], [], [(some (.inl (2147483649, 2147483649, 0, 0, 0)), [], []), (some (.inl (2147483648, 2147483648, 0, 0, 0)), [], [])])
set_option maxRecDepth 1000000 in
theorem sm_60_ff4e6781_ok : sv_valid sg sm_60_ff4e6781 := sv_main (S := []) (na := 2) (cut := []) (cs := []) (sp := []) (N := 1) sv_nv (by decide +kernel)
-- HungerDays$Reader.isSign(I)Z (r2, 62)
def sm_60_bc14a8e6 : sv_SM := (60, 1, 0, [.inr (some 2), .inl (2147483710, 2147483710, 0, 0, 0)], [], [], [(some (.inl (2147483649, 2147483649, 0, 0, 0)), [], []), (some (.inl (2147483648, 2147483648, 0, 0, 0)), [], [])])
set_option maxRecDepth 1000000 in
theorem sm_60_bc14a8e6_ok : sv_valid sg sm_60_bc14a8e6 := sv_main (S := []) (na := 2) (cut := []) (cs := []) (sp := []) (N := 1) sv_nv (by decide +kernel)
-- HungerDays$Reader.takeNumber(II)I (r2, 0, 999)
def sm_189_4d2f1930 : sv_SM := (189, 3, 0, [.inr (some 2), .inl (2147483648, 2147483648, 0, 0, 0), .inl (2147484647, 2147484647, 0, 0, 0)], [], [(2, 4, 12)], [(some (.inl (2147483647, 2147483647, 0, 0, 0)), [], []), (some (.inl (0, 4294967295, 0, 0, 0)), [], [])])
set_option maxRecDepth 1000000 in
theorem sm_189_4d2f1930_ok : sv_valid sg sm_189_4d2f1930 := sv_main (S := [sm_63_05d71500, sm_184_4187aa83, sm_61_078b38e8, sm_63_468dda67]) (na := 3) (cut := []) (cs := []) (sp := []) (N := 1) (sv_cv sm_63_05d71500_ok (sv_cv sm_184_4187aa83_ok (sv_cv sm_61_078b38e8_ok (sv_cv sm_63_468dda67_ok sv_nv)))) (by decide +kernel)
-- HungerDays$Sentence.addStep(III)Z (r111, [13,21], [MIN,MAX], [MIN,MAX])
def sm_191_feb8188a : sv_SM := (191, 1, 0, [.inr (some 111), .inl (2147483661, 2147483669, 0, 0, 0), .inl (0, 4294967295, 0, 0, 0), .inl (0, 4294967295, 0, 0, 0)], [(1818625, 2147483648, 2147483688, 0, 0)], [(111, 1, 1), (112, 0, 39), (113, 0, 39), (114, 0, 39)], [(some (.inl (2147483648, 2147483648, 0, 0, 0)), [], []), (some (.inl (2147483649, 2147483649, 0, 0, 0)), [], [(1818625, 2147483649, 2147483688, 0, 0)])])
set_option maxRecDepth 1000000 in
theorem sm_191_feb8188a_ok : sv_valid sg sm_191_feb8188a := sv_main (S := []) (na := 4) (cut := []) (cs := []) (sp := []) (N := 1) sv_nv (by decide +kernel)
-- HungerDays$Sentence.addStep(III)Z (r111, [13,21], [MIN,MAX], -1)
def sm_191_aba26080 : sv_SM := (191, 1, 0, [.inr (some 111), .inl (2147483661, 2147483669, 0, 0, 0), .inl (0, 4294967295, 0, 0, 0), .inl (2147483647, 2147483647, 0, 0, 0)], [(1818625, 2147483648, 2147483688, 0, 0)], [], [(some (.inl (2147483648, 2147483648, 0, 0, 0)), [], [])])
set_option maxRecDepth 1000000 in
theorem sm_191_aba26080_ok : sv_valid sg sm_191_aba26080 := sv_main (S := []) (na := 4) (cut := []) (cs := []) (sp := []) (N := 1) sv_nv (by decide +kernel)
-- HungerDays$Sentence.readComparison(LHungerDays$Reader;I)Z (r111, r2, [13,21])
def sm_198_db3d3f1c : sv_SM := (198, 4, 0, [.inr (some 111), .inr (some 2), .inl (2147483661, 2147483669, 0, 0, 0)], [], [(2, 4, 12), (111, 1, 1), (112, 0, 39), (113, 0, 39), (114, 0, 39)], [(some (.inl (2147483648, 2147483648, 0, 0, 0)), [], []), (some (.inl (2147483649, 2147483649, 0, 0, 0)), [], [])])
set_option maxRecDepth 1000000 in
theorem sm_198_db3d3f1c_ok : sv_valid sg sm_198_db3d3f1c := sv_main (S := [sm_60_6bf3596d, sm_60_ff4e6781, sm_60_bc14a8e6, sm_63_05d71500, sm_61_078b38e8, sm_189_4d2f1930, sm_191_feb8188a, sm_191_aba26080]) (na := 3) (cut := []) (cs := []) (sp := []) (N := 1) (sv_cv sm_60_6bf3596d_ok (sv_cv sm_60_ff4e6781_ok (sv_cv sm_60_bc14a8e6_ok (sv_cv sm_63_05d71500_ok (sv_cv sm_61_078b38e8_ok (sv_cv sm_189_4d2f1930_ok (sv_cv sm_191_feb8188a_ok (sv_cv sm_191_aba26080_ok sv_nv)))))))) (by decide +kernel)
-- HungerDays$Sentence.readCond(LHungerDays$Reader;LHungerDays$Valley;I)Z (r111, r2, r4, 9)
def sm_68_f93a7d1d : sv_SM := (68, 3, 0, [.inr (some 111), .inr (some 2), .inr (some 4), .inl (2147483657, 2147483657, 0, 0, 0)], [], [(2, 11, 12)], [(some (.inl (2147483648, 2147483648, 0, 0, 0)), [], [])])
set_option maxRecDepth 1000000 in
theorem sm_68_f93a7d1d_ok : sv_valid sg sm_68_f93a7d1d := sv_main (S := [sm_69_f93a7d1d]) (na := 4) (cut := [9]) (cs := [(9, 1, 1, 0, [some (.inr (some 111)), some (.inr (some 2)), some (.inr (some 4)), some (.inl (2147483657, 2147483657, 0, 0, 0)), some (.inl (2147483648, 2147483648, 0, 0, 0)), some (.inl (2147483648, 2147483648, 0, 0, 0)), some (.inl (2147483648, 2147483648, 0, 0, 0))], [], [])]) (sp := []) (N := 2) (sv_cv sm_69_f93a7d1d_ok sv_nv) (by decide +kernel)
-- HungerDays$Sentence.readOne(LHungerDays$Reader;LHungerDays$Valley;I)Z (r111, r2, r4, 8)
def sm_69_6d8743f1 : sv_SM := (69, 5, 0, [.inr (some 111), .inr (some 2), .inr (some 4), .inl (2147483656, 2147483656, 0, 0, 0)], [], [(2, 4, 12), (111, 0, 1), (112, 0, 39), (113, 0, 39), (114, 0, 39)], [(some (.inl (2147483648, 2147483648, 0, 0, 0)), [], []), (some (.inl (2147483649, 2147483649, 0, 0, 0)), [], [])])
set_option maxRecDepth 1000000 in
theorem sm_69_6d8743f1_ok : sv_valid sg sm_69_6d8743f1 := sv_main (S := [sm_60_114ee434, sm_61_078b38e8, sm_188_f939e912, sm_191_53cdc637, sm_191_eb1aa363, sm_188_2ede1899, sm_191_cfe5d42d, sm_191_7732b179, sm_191_988d602b, sm_191_04a57231, sm_69_f93a7d1d, sm_198_db3d3f1c, sm_63_b486a1fe, sm_63_05d71500, sm_68_f93a7d1d]) (na := 4) (cut := []) (cs := []) (sp := []) (N := 1) (sv_cv sm_60_114ee434_ok (sv_cv sm_61_078b38e8_ok (sv_cv sm_188_f939e912_ok (sv_cv sm_191_53cdc637_ok (sv_cv sm_191_eb1aa363_ok (sv_cv sm_188_2ede1899_ok (sv_cv sm_191_cfe5d42d_ok (sv_cv sm_191_7732b179_ok (sv_cv sm_191_988d602b_ok (sv_cv sm_191_04a57231_ok (sv_cv sm_69_f93a7d1d_ok (sv_cv sm_198_db3d3f1c_ok (sv_cv sm_63_b486a1fe_ok (sv_cv sm_63_05d71500_ok (sv_cv sm_68_f93a7d1d_ok sv_nv))))))))))))))) (by decide +kernel)
-- HungerDays$Sentence.addStep(III)Z (r111, 13, 0, 0)
def sm_191_7bac425e : sv_SM := (191, 1, 0, [.inr (some 111), .inl (2147483661, 2147483661, 0, 0, 0), .inl (2147483648, 2147483648, 0, 0, 0), .inl (2147483648, 2147483648, 0, 0, 0)], [(1818625, 2147483648, 2147483688, 0, 0)], [(111, 1, 1), (112, 0, 39), (113, 0, 39), (114, 0, 39)], [(some (.inl (2147483648, 2147483648, 0, 0, 0)), [], [(1818625, 2147483688, 2147483688, 0, 0)]), (some (.inl (2147483649, 2147483649, 0, 0, 0)), [], [(1818625, 2147483649, 2147483688, 0, 0)])])
set_option maxRecDepth 1000000 in
theorem sm_191_7bac425e_ok : sv_valid sg sm_191_7bac425e := sv_main (S := []) (na := 4) (cut := []) (cs := []) (sp := []) (N := 1) sv_nv (by decide +kernel)
-- HungerDays$Sentence.joinLatest(II)I (r111, 12, 0)
def sm_194_1168a740 : sv_SM := (194, 1, 0, [.inr (some 111), .inl (2147483660, 2147483660, 0, 0, 0), .inl (2147483648, 2147483648, 0, 0, 0)], [], [], [(some (.inl (2147483648, 2147483648, 0, 0, 0)), [], [])])
set_option maxRecDepth 1000000 in
theorem sm_194_1168a740_ok : sv_valid sg sm_194_1168a740 := sv_main (S := []) (na := 3) (cut := []) (cs := []) (sp := []) (N := 1) sv_nv (by decide +kernel)
-- HungerDays$Sentence.joinLatest(II)I (r111, 11, 0)
def sm_194_a0e6ab13 : sv_SM := (194, 1, 0, [.inr (some 111), .inl (2147483659, 2147483659, 0, 0, 0), .inl (2147483648, 2147483648, 0, 0, 0)], [], [], [(some (.inl (2147483648, 2147483648, 0, 0, 0)), [], [])])
set_option maxRecDepth 1000000 in
theorem sm_194_a0e6ab13_ok : sv_valid sg sm_194_a0e6ab13 := sv_main (S := []) (na := 3) (cut := []) (cs := []) (sp := []) (N := 1) sv_nv (by decide +kernel)
-- HungerDays$Sentence.addStep(III)Z (r111, 12, 0, 0)
def sm_191_e7845044 : sv_SM := (191, 1, 0, [.inr (some 111), .inl (2147483660, 2147483660, 0, 0, 0), .inl (2147483648, 2147483648, 0, 0, 0), .inl (2147483648, 2147483648, 0, 0, 0)], [(1818625, 2147483648, 2147483688, 0, 0)], [(111, 1, 1), (112, 0, 39), (113, 0, 39), (114, 0, 39)], [(some (.inl (2147483648, 2147483648, 0, 0, 0)), [], [(1818625, 2147483688, 2147483688, 0, 0)]), (some (.inl (2147483649, 2147483649, 0, 0, 0)), [], [(1818625, 2147483649, 2147483688, 0, 0)])])
set_option maxRecDepth 1000000 in
theorem sm_191_e7845044_ok : sv_valid sg sm_191_e7845044 := sv_main (S := []) (na := 4) (cut := []) (cs := []) (sp := []) (N := 1) sv_nv (by decide +kernel)
-- HungerDays$Sentence.joinLatest(II)I (r111, 12, [0,1])
def sm_194_740f9c06 : sv_SM := (194, 2, 0, [.inr (some 111), .inl (2147483660, 2147483660, 0, 0, 0), .inl (2147483648, 2147483649, 0, 0, 0)], [], [(111, 1, 1), (112, 0, 39), (113, 0, 39), (114, 0, 39)], [(some (.inl (2147483648, 2147483648, 0, 0, 0)), [], [])])
set_option maxRecDepth 1000000 in
theorem sm_194_740f9c06_ok : sv_valid sg sm_194_740f9c06 := sv_main (S := [sm_191_e7845044]) (na := 3) (cut := []) (cs := []) (sp := []) (N := 1) (sv_cv sm_191_e7845044_ok sv_nv) (by decide +kernel)
-- HungerDays$Sentence.addStep(III)Z (r111, 11, 0, 0)
def sm_191_9cb8b2f1 : sv_SM := (191, 1, 0, [.inr (some 111), .inl (2147483659, 2147483659, 0, 0, 0), .inl (2147483648, 2147483648, 0, 0, 0), .inl (2147483648, 2147483648, 0, 0, 0)], [(1818625, 2147483648, 2147483688, 0, 0)], [(111, 1, 1), (112, 0, 39), (113, 0, 39), (114, 0, 39)], [(some (.inl (2147483648, 2147483648, 0, 0, 0)), [], [(1818625, 2147483688, 2147483688, 0, 0)]), (some (.inl (2147483649, 2147483649, 0, 0, 0)), [], [(1818625, 2147483649, 2147483688, 0, 0)])])
set_option maxRecDepth 1000000 in
theorem sm_191_9cb8b2f1_ok : sv_valid sg sm_191_9cb8b2f1 := sv_main (S := []) (na := 4) (cut := []) (cs := []) (sp := []) (N := 1) sv_nv (by decide +kernel)
-- HungerDays$Sentence.joinLatest(II)I (r111, 11, [0,1])
def sm_194_c5819055 : sv_SM := (194, 2, 0, [.inr (some 111), .inl (2147483659, 2147483659, 0, 0, 0), .inl (2147483648, 2147483649, 0, 0, 0)], [], [(111, 1, 1), (112, 0, 39), (113, 0, 39), (114, 0, 39)], [(some (.inl (2147483648, 2147483648, 0, 0, 0)), [], [])])
set_option maxRecDepth 1000000 in
theorem sm_194_c5819055_ok : sv_valid sg sm_194_c5819055 := sv_main (S := [sm_191_9cb8b2f1]) (na := 3) (cut := []) (cs := []) (sp := []) (N := 1) (sv_cv sm_191_9cb8b2f1_ok sv_nv) (by decide +kernel)
-- HungerDays$Sentence.readCond(LHungerDays$Reader;LHungerDays$Valley;I)Z (r111, r2, r4, 8)
def sm_68_6d8743f1 : sv_SM := (68, 6, 0, [.inr (some 111), .inr (some 2), .inr (some 4), .inl (2147483656, 2147483656, 0, 0, 0)], [], [(2, 4, 12), (111, 0, 1), (112, 0, 39), (113, 0, 39), (114, 0, 39)], [(some (.inl (2147483649, 2147483649, 0, 0, 0)), [], []), (some (.inl (2147483648, 2147483648, 0, 0, 0)), [], [])])
set_option maxRecDepth 1000000 in
theorem sm_68_6d8743f1_ok : sv_valid sg sm_68_6d8743f1 := sv_main (S := [sm_69_6d8743f1, sm_194_740f9c06, sm_61_078b38e8, sm_194_c5819055, sm_63_b486a1fe]) (na := 4) (cut := [9]) (cs := [(9, 1, 1, 13, [some (.inr (some 111)), some (.inr (some 2)), some (.inr (some 4)), some (.inl (2147483656, 2147483656, 0, 0, 0)), some (.inl (2147483648, 2147483649, 0, 0, 0)), some (.inl (2147483648, 2147483649, 0, 0, 0)), some (.inl (2147483648, 2147483669, 0, 0, 0))], [], [])]) (sp := []) (N := 2) (sv_cv sm_69_6d8743f1_ok (sv_cv sm_194_740f9c06_ok (sv_cv sm_61_078b38e8_ok (sv_cv sm_194_c5819055_ok (sv_cv sm_63_b486a1fe_ok sv_nv))))) (by decide +kernel)
-- HungerDays$Reader.isSign(I)Z (r2, 41)
def sm_60_85f3dad8 : sv_SM := (60, 1, 0, [.inr (some 2), .inl (2147483689, 2147483689, 0, 0, 0)], [], [], [(some (.inl (2147483649, 2147483649, 0, 0, 0)), [], []), (some (.inl (2147483648, 2147483648, 0, 0, 0)), [], [])])
set_option maxRecDepth 1000000 in
theorem sm_60_85f3dad8_ok : sv_valid sg sm_60_85f3dad8 := sv_main (S := []) (na := 2) (cut := []) (cs := []) (sp := []) (N := 1) sv_nv (by decide +kernel)
-- HungerDays$Reader.takeSign(I)Z (r2, 41)
def sm_190_85f3dad8 : sv_SM := (190, 3, 0, [.inr (some 2), .inl (2147483689, 2147483689, 0, 0, 0)], [], [(2, 4, 12)], [(some (.inl (2147483648, 2147483648, 0, 0, 0)), [], []), (some (.inl (2147483649, 2147483649, 0, 0, 0)), [], [])])
set_option maxRecDepth 1000000 in
theorem sm_190_85f3dad8_ok : sv_valid sg sm_190_85f3dad8 := sv_main (S := [sm_60_85f3dad8, sm_63_05d71500, sm_61_078b38e8]) (na := 2) (cut := []) (cs := []) (sp := []) (N := 1) (sv_cv sm_60_85f3dad8_ok (sv_cv sm_63_05d71500_ok (sv_cv sm_61_078b38e8_ok sv_nv))) (by decide +kernel)
-- HungerDays$Sentence.readOne(LHungerDays$Reader;LHungerDays$Valley;I)Z (r111, r2, r4, 7)
def sm_69_0b310684 : sv_SM := (69, 7, 0, [.inr (some 111), .inr (some 2), .inr (some 4), .inl (2147483655, 2147483655, 0, 0, 0)], [], [(2, 4, 12), (111, 0, 1), (112, 0, 39), (113, 0, 39), (114, 0, 39)], [(some (.inl (2147483648, 2147483648, 0, 0, 0)), [], []), (some (.inl (2147483649, 2147483649, 0, 0, 0)), [], [])])
set_option maxRecDepth 1000000 in
theorem sm_69_0b310684_ok : sv_valid sg sm_69_0b310684 := sv_main (S := [sm_60_114ee434, sm_61_078b38e8, sm_188_f939e912, sm_191_53cdc637, sm_191_eb1aa363, sm_188_2ede1899, sm_191_cfe5d42d, sm_191_7732b179, sm_191_988d602b, sm_191_04a57231, sm_69_6d8743f1, sm_191_7bac425e, sm_198_db3d3f1c, sm_63_b486a1fe, sm_63_05d71500, sm_68_6d8743f1, sm_190_85f3dad8]) (na := 4) (cut := []) (cs := []) (sp := []) (N := 1) (sv_cv sm_60_114ee434_ok (sv_cv sm_61_078b38e8_ok (sv_cv sm_188_f939e912_ok (sv_cv sm_191_53cdc637_ok (sv_cv sm_191_eb1aa363_ok (sv_cv sm_188_2ede1899_ok (sv_cv sm_191_cfe5d42d_ok (sv_cv sm_191_7732b179_ok (sv_cv sm_191_988d602b_ok (sv_cv sm_191_04a57231_ok (sv_cv sm_69_6d8743f1_ok (sv_cv sm_191_7bac425e_ok (sv_cv sm_198_db3d3f1c_ok (sv_cv sm_63_b486a1fe_ok (sv_cv sm_63_05d71500_ok (sv_cv sm_68_6d8743f1_ok (sv_cv sm_190_85f3dad8_ok sv_nv))))))))))))))))) (by decide +kernel)
-- HungerDays$Sentence.readCond(LHungerDays$Reader;LHungerDays$Valley;I)Z (r111, r2, r4, 7)
def sm_68_0b310684 : sv_SM := (68, 8, 0, [.inr (some 111), .inr (some 2), .inr (some 4), .inl (2147483655, 2147483655, 0, 0, 0)], [], [(2, 4, 12), (111, 0, 1), (112, 0, 39), (113, 0, 39), (114, 0, 39)], [(some (.inl (2147483649, 2147483649, 0, 0, 0)), [], []), (some (.inl (2147483648, 2147483648, 0, 0, 0)), [], [])])
set_option maxRecDepth 1000000 in
theorem sm_68_0b310684_ok : sv_valid sg sm_68_0b310684 := sv_main (S := [sm_69_0b310684, sm_194_740f9c06, sm_61_078b38e8, sm_194_c5819055, sm_63_b486a1fe]) (na := 4) (cut := [9]) (cs := [(9, 1, 1, 13, [some (.inr (some 111)), some (.inr (some 2)), some (.inr (some 4)), some (.inl (2147483655, 2147483655, 0, 0, 0)), some (.inl (2147483648, 2147483649, 0, 0, 0)), some (.inl (2147483648, 2147483649, 0, 0, 0)), some (.inl (2147483648, 2147483669, 0, 0, 0))], [], [])]) (sp := []) (N := 2) (sv_cv sm_69_0b310684_ok (sv_cv sm_194_740f9c06_ok (sv_cv sm_61_078b38e8_ok (sv_cv sm_194_c5819055_ok (sv_cv sm_63_b486a1fe_ok sv_nv))))) (by decide +kernel)
-- HungerDays$Sentence.readOne(LHungerDays$Reader;LHungerDays$Valley;I)Z (r111, r2, r4, 6)
def sm_69_9f8c3868 : sv_SM := (69, 9, 0, [.inr (some 111), .inr (some 2), .inr (some 4), .inl (2147483654, 2147483654, 0, 0, 0)], [], [(2, 4, 12), (111, 0, 1), (112, 0, 39), (113, 0, 39), (114, 0, 39)], [(some (.inl (2147483648, 2147483648, 0, 0, 0)), [], []), (some (.inl (2147483649, 2147483649, 0, 0, 0)), [], [])])
set_option maxRecDepth 1000000 in
theorem sm_69_9f8c3868_ok : sv_valid sg sm_69_9f8c3868 := sv_main (S := [sm_60_114ee434, sm_61_078b38e8, sm_188_f939e912, sm_191_53cdc637, sm_191_eb1aa363, sm_188_2ede1899, sm_191_cfe5d42d, sm_191_7732b179, sm_191_988d602b, sm_191_04a57231, sm_69_0b310684, sm_191_7bac425e, sm_198_db3d3f1c, sm_63_b486a1fe, sm_63_05d71500, sm_68_0b310684, sm_190_85f3dad8]) (na := 4) (cut := []) (cs := []) (sp := []) (N := 1) (sv_cv sm_60_114ee434_ok (sv_cv sm_61_078b38e8_ok (sv_cv sm_188_f939e912_ok (sv_cv sm_191_53cdc637_ok (sv_cv sm_191_eb1aa363_ok (sv_cv sm_188_2ede1899_ok (sv_cv sm_191_cfe5d42d_ok (sv_cv sm_191_7732b179_ok (sv_cv sm_191_988d602b_ok (sv_cv sm_191_04a57231_ok (sv_cv sm_69_0b310684_ok (sv_cv sm_191_7bac425e_ok (sv_cv sm_198_db3d3f1c_ok (sv_cv sm_63_b486a1fe_ok (sv_cv sm_63_05d71500_ok (sv_cv sm_68_0b310684_ok (sv_cv sm_190_85f3dad8_ok sv_nv))))))))))))))))) (by decide +kernel)
-- HungerDays$Sentence.readCond(LHungerDays$Reader;LHungerDays$Valley;I)Z (r111, r2, r4, 6)
def sm_68_9f8c3868 : sv_SM := (68, 10, 0, [.inr (some 111), .inr (some 2), .inr (some 4), .inl (2147483654, 2147483654, 0, 0, 0)], [], [(2, 4, 12), (111, 0, 1), (112, 0, 39), (113, 0, 39), (114, 0, 39)], [(some (.inl (2147483649, 2147483649, 0, 0, 0)), [], []), (some (.inl (2147483648, 2147483648, 0, 0, 0)), [], [])])
set_option maxRecDepth 1000000 in
theorem sm_68_9f8c3868_ok : sv_valid sg sm_68_9f8c3868 := sv_main (S := [sm_69_9f8c3868, sm_194_740f9c06, sm_61_078b38e8, sm_194_c5819055, sm_63_b486a1fe]) (na := 4) (cut := [9]) (cs := [(9, 1, 1, 13, [some (.inr (some 111)), some (.inr (some 2)), some (.inr (some 4)), some (.inl (2147483654, 2147483654, 0, 0, 0)), some (.inl (2147483648, 2147483649, 0, 0, 0)), some (.inl (2147483648, 2147483649, 0, 0, 0)), some (.inl (2147483648, 2147483669, 0, 0, 0))], [], [])]) (sp := []) (N := 2) (sv_cv sm_69_9f8c3868_ok (sv_cv sm_194_740f9c06_ok (sv_cv sm_61_078b38e8_ok (sv_cv sm_194_c5819055_ok (sv_cv sm_63_b486a1fe_ok sv_nv))))) (by decide +kernel)
-- HungerDays$Sentence.readOne(LHungerDays$Reader;LHungerDays$Valley;I)Z (r111, r2, r4, 5)
def sm_69_c65d8c6e : sv_SM := (69, 11, 0, [.inr (some 111), .inr (some 2), .inr (some 4), .inl (2147483653, 2147483653, 0, 0, 0)], [], [(2, 4, 12), (111, 0, 1), (112, 0, 39), (113, 0, 39), (114, 0, 39)], [(some (.inl (2147483648, 2147483648, 0, 0, 0)), [], []), (some (.inl (2147483649, 2147483649, 0, 0, 0)), [], [])])
set_option maxRecDepth 1000000 in
theorem sm_69_c65d8c6e_ok : sv_valid sg sm_69_c65d8c6e := sv_main (S := [sm_60_114ee434, sm_61_078b38e8, sm_188_f939e912, sm_191_53cdc637, sm_191_eb1aa363, sm_188_2ede1899, sm_191_cfe5d42d, sm_191_7732b179, sm_191_988d602b, sm_191_04a57231, sm_69_9f8c3868, sm_191_7bac425e, sm_198_db3d3f1c, sm_63_b486a1fe, sm_63_05d71500, sm_68_9f8c3868, sm_190_85f3dad8]) (na := 4) (cut := []) (cs := []) (sp := []) (N := 1) (sv_cv sm_60_114ee434_ok (sv_cv sm_61_078b38e8_ok (sv_cv sm_188_f939e912_ok (sv_cv sm_191_53cdc637_ok (sv_cv sm_191_eb1aa363_ok (sv_cv sm_188_2ede1899_ok (sv_cv sm_191_cfe5d42d_ok (sv_cv sm_191_7732b179_ok (sv_cv sm_191_988d602b_ok (sv_cv sm_191_04a57231_ok (sv_cv sm_69_9f8c3868_ok (sv_cv sm_191_7bac425e_ok (sv_cv sm_198_db3d3f1c_ok (sv_cv sm_63_b486a1fe_ok (sv_cv sm_63_05d71500_ok (sv_cv sm_68_9f8c3868_ok (sv_cv sm_190_85f3dad8_ok sv_nv))))))))))))))))) (by decide +kernel)
-- HungerDays$Sentence.readCond(LHungerDays$Reader;LHungerDays$Valley;I)Z (r111, r2, r4, 5)
def sm_68_c65d8c6e : sv_SM := (68, 12, 0, [.inr (some 111), .inr (some 2), .inr (some 4), .inl (2147483653, 2147483653, 0, 0, 0)], [], [(2, 4, 12), (111, 0, 1), (112, 0, 39), (113, 0, 39), (114, 0, 39)], [(some (.inl (2147483649, 2147483649, 0, 0, 0)), [], []), (some (.inl (2147483648, 2147483648, 0, 0, 0)), [], [])])
set_option maxRecDepth 1000000 in
theorem sm_68_c65d8c6e_ok : sv_valid sg sm_68_c65d8c6e := sv_main (S := [sm_69_c65d8c6e, sm_194_740f9c06, sm_61_078b38e8, sm_194_c5819055, sm_63_b486a1fe]) (na := 4) (cut := [9]) (cs := [(9, 1, 1, 13, [some (.inr (some 111)), some (.inr (some 2)), some (.inr (some 4)), some (.inl (2147483653, 2147483653, 0, 0, 0)), some (.inl (2147483648, 2147483649, 0, 0, 0)), some (.inl (2147483648, 2147483649, 0, 0, 0)), some (.inl (2147483648, 2147483669, 0, 0, 0))], [], [])]) (sp := []) (N := 2) (sv_cv sm_69_c65d8c6e_ok (sv_cv sm_194_740f9c06_ok (sv_cv sm_61_078b38e8_ok (sv_cv sm_194_c5819055_ok (sv_cv sm_63_b486a1fe_ok sv_nv))))) (by decide +kernel)
-- HungerDays$Sentence.readOne(LHungerDays$Reader;LHungerDays$Valley;I)Z (r111, r2, r4, 4)
def sm_69_52e0b282 : sv_SM := (69, 13, 0, [.inr (some 111), .inr (some 2), .inr (some 4), .inl (2147483652, 2147483652, 0, 0, 0)], [], [(2, 4, 12), (111, 0, 1), (112, 0, 39), (113, 0, 39), (114, 0, 39)], [(some (.inl (2147483648, 2147483648, 0, 0, 0)), [], []), (some (.inl (2147483649, 2147483649, 0, 0, 0)), [], [])])
set_option maxRecDepth 1000000 in
theorem sm_69_52e0b282_ok : sv_valid sg sm_69_52e0b282 := sv_main (S := [sm_60_114ee434, sm_61_078b38e8, sm_188_f939e912, sm_191_53cdc637, sm_191_eb1aa363, sm_188_2ede1899, sm_191_cfe5d42d, sm_191_7732b179, sm_191_988d602b, sm_191_04a57231, sm_69_c65d8c6e, sm_191_7bac425e, sm_198_db3d3f1c, sm_63_b486a1fe, sm_63_05d71500, sm_68_c65d8c6e, sm_190_85f3dad8]) (na := 4) (cut := []) (cs := []) (sp := []) (N := 1) (sv_cv sm_60_114ee434_ok (sv_cv sm_61_078b38e8_ok (sv_cv sm_188_f939e912_ok (sv_cv sm_191_53cdc637_ok (sv_cv sm_191_eb1aa363_ok (sv_cv sm_188_2ede1899_ok (sv_cv sm_191_cfe5d42d_ok (sv_cv sm_191_7732b179_ok (sv_cv sm_191_988d602b_ok (sv_cv sm_191_04a57231_ok (sv_cv sm_69_c65d8c6e_ok (sv_cv sm_191_7bac425e_ok (sv_cv sm_198_db3d3f1c_ok (sv_cv sm_63_b486a1fe_ok (sv_cv sm_63_05d71500_ok (sv_cv sm_68_c65d8c6e_ok (sv_cv sm_190_85f3dad8_ok sv_nv))))))))))))))))) (by decide +kernel)
-- HungerDays$Sentence.readCond(LHungerDays$Reader;LHungerDays$Valley;I)Z (r111, r2, r4, 4)
def sm_68_52e0b282 : sv_SM := (68, 14, 0, [.inr (some 111), .inr (some 2), .inr (some 4), .inl (2147483652, 2147483652, 0, 0, 0)], [], [(2, 4, 12), (111, 0, 1), (112, 0, 39), (113, 0, 39), (114, 0, 39)], [(some (.inl (2147483649, 2147483649, 0, 0, 0)), [], []), (some (.inl (2147483648, 2147483648, 0, 0, 0)), [], [])])
set_option maxRecDepth 1000000 in
theorem sm_68_52e0b282_ok : sv_valid sg sm_68_52e0b282 := sv_main (S := [sm_69_52e0b282, sm_194_740f9c06, sm_61_078b38e8, sm_194_c5819055, sm_63_b486a1fe]) (na := 4) (cut := [9]) (cs := [(9, 1, 1, 13, [some (.inr (some 111)), some (.inr (some 2)), some (.inr (some 4)), some (.inl (2147483652, 2147483652, 0, 0, 0)), some (.inl (2147483648, 2147483649, 0, 0, 0)), some (.inl (2147483648, 2147483649, 0, 0, 0)), some (.inl (2147483648, 2147483669, 0, 0, 0))], [], [])]) (sp := []) (N := 2) (sv_cv sm_69_52e0b282_ok (sv_cv sm_194_740f9c06_ok (sv_cv sm_61_078b38e8_ok (sv_cv sm_194_c5819055_ok (sv_cv sm_63_b486a1fe_ok sv_nv))))) (by decide +kernel)
-- HungerDays$Sentence.readOne(LHungerDays$Reader;LHungerDays$Valley;I)Z (r111, r2, r4, 3)
def sm_69_3456f7f7 : sv_SM := (69, 15, 0, [.inr (some 111), .inr (some 2), .inr (some 4), .inl (2147483651, 2147483651, 0, 0, 0)], [], [(2, 4, 12), (111, 0, 1), (112, 0, 39), (113, 0, 39), (114, 0, 39)], [(some (.inl (2147483648, 2147483648, 0, 0, 0)), [], []), (some (.inl (2147483649, 2147483649, 0, 0, 0)), [], [])])
set_option maxRecDepth 1000000 in
theorem sm_69_3456f7f7_ok : sv_valid sg sm_69_3456f7f7 := sv_main (S := [sm_60_114ee434, sm_61_078b38e8, sm_188_f939e912, sm_191_53cdc637, sm_191_eb1aa363, sm_188_2ede1899, sm_191_cfe5d42d, sm_191_7732b179, sm_191_988d602b, sm_191_04a57231, sm_69_52e0b282, sm_191_7bac425e, sm_198_db3d3f1c, sm_63_b486a1fe, sm_63_05d71500, sm_68_52e0b282, sm_190_85f3dad8]) (na := 4) (cut := []) (cs := []) (sp := []) (N := 1) (sv_cv sm_60_114ee434_ok (sv_cv sm_61_078b38e8_ok (sv_cv sm_188_f939e912_ok (sv_cv sm_191_53cdc637_ok (sv_cv sm_191_eb1aa363_ok (sv_cv sm_188_2ede1899_ok (sv_cv sm_191_cfe5d42d_ok (sv_cv sm_191_7732b179_ok (sv_cv sm_191_988d602b_ok (sv_cv sm_191_04a57231_ok (sv_cv sm_69_52e0b282_ok (sv_cv sm_191_7bac425e_ok (sv_cv sm_198_db3d3f1c_ok (sv_cv sm_63_b486a1fe_ok (sv_cv sm_63_05d71500_ok (sv_cv sm_68_52e0b282_ok (sv_cv sm_190_85f3dad8_ok sv_nv))))))))))))))))) (by decide +kernel)
-- HungerDays$Sentence.readCond(LHungerDays$Reader;LHungerDays$Valley;I)Z (r111, r2, r4, 3)
def sm_68_3456f7f7 : sv_SM := (68, 16, 0, [.inr (some 111), .inr (some 2), .inr (some 4), .inl (2147483651, 2147483651, 0, 0, 0)], [], [(2, 4, 12), (111, 0, 1), (112, 0, 39), (113, 0, 39), (114, 0, 39)], [(some (.inl (2147483649, 2147483649, 0, 0, 0)), [], []), (some (.inl (2147483648, 2147483648, 0, 0, 0)), [], [])])
set_option maxRecDepth 1000000 in
theorem sm_68_3456f7f7_ok : sv_valid sg sm_68_3456f7f7 := sv_main (S := [sm_69_3456f7f7, sm_194_740f9c06, sm_61_078b38e8, sm_194_c5819055, sm_63_b486a1fe]) (na := 4) (cut := [9]) (cs := [(9, 1, 1, 13, [some (.inr (some 111)), some (.inr (some 2)), some (.inr (some 4)), some (.inl (2147483651, 2147483651, 0, 0, 0)), some (.inl (2147483648, 2147483649, 0, 0, 0)), some (.inl (2147483648, 2147483649, 0, 0, 0)), some (.inl (2147483648, 2147483669, 0, 0, 0))], [], [])]) (sp := []) (N := 2) (sv_cv sm_69_3456f7f7_ok (sv_cv sm_194_740f9c06_ok (sv_cv sm_61_078b38e8_ok (sv_cv sm_194_c5819055_ok (sv_cv sm_63_b486a1fe_ok sv_nv))))) (by decide +kernel)
-- HungerDays$Sentence.readOne(LHungerDays$Reader;LHungerDays$Valley;I)Z (r111, r2, r4, 2)
def sm_69_a0ebc91b : sv_SM := (69, 17, 0, [.inr (some 111), .inr (some 2), .inr (some 4), .inl (2147483650, 2147483650, 0, 0, 0)], [], [(2, 4, 12), (111, 0, 1), (112, 0, 39), (113, 0, 39), (114, 0, 39)], [(some (.inl (2147483648, 2147483648, 0, 0, 0)), [], []), (some (.inl (2147483649, 2147483649, 0, 0, 0)), [], [])])
set_option maxRecDepth 1000000 in
theorem sm_69_a0ebc91b_ok : sv_valid sg sm_69_a0ebc91b := sv_main (S := [sm_60_114ee434, sm_61_078b38e8, sm_188_f939e912, sm_191_53cdc637, sm_191_eb1aa363, sm_188_2ede1899, sm_191_cfe5d42d, sm_191_7732b179, sm_191_988d602b, sm_191_04a57231, sm_69_3456f7f7, sm_191_7bac425e, sm_198_db3d3f1c, sm_63_b486a1fe, sm_63_05d71500, sm_68_3456f7f7, sm_190_85f3dad8]) (na := 4) (cut := []) (cs := []) (sp := []) (N := 1) (sv_cv sm_60_114ee434_ok (sv_cv sm_61_078b38e8_ok (sv_cv sm_188_f939e912_ok (sv_cv sm_191_53cdc637_ok (sv_cv sm_191_eb1aa363_ok (sv_cv sm_188_2ede1899_ok (sv_cv sm_191_cfe5d42d_ok (sv_cv sm_191_7732b179_ok (sv_cv sm_191_988d602b_ok (sv_cv sm_191_04a57231_ok (sv_cv sm_69_3456f7f7_ok (sv_cv sm_191_7bac425e_ok (sv_cv sm_198_db3d3f1c_ok (sv_cv sm_63_b486a1fe_ok (sv_cv sm_63_05d71500_ok (sv_cv sm_68_3456f7f7_ok (sv_cv sm_190_85f3dad8_ok sv_nv))))))))))))))))) (by decide +kernel)
-- HungerDays$Sentence.readCond(LHungerDays$Reader;LHungerDays$Valley;I)Z (r111, r2, r4, 2)
def sm_68_a0ebc91b : sv_SM := (68, 18, 0, [.inr (some 111), .inr (some 2), .inr (some 4), .inl (2147483650, 2147483650, 0, 0, 0)], [], [(2, 4, 12), (111, 0, 1), (112, 0, 39), (113, 0, 39), (114, 0, 39)], [(some (.inl (2147483649, 2147483649, 0, 0, 0)), [], []), (some (.inl (2147483648, 2147483648, 0, 0, 0)), [], [])])
set_option maxRecDepth 1000000 in
theorem sm_68_a0ebc91b_ok : sv_valid sg sm_68_a0ebc91b := sv_main (S := [sm_69_a0ebc91b, sm_194_740f9c06, sm_61_078b38e8, sm_194_c5819055, sm_63_b486a1fe]) (na := 4) (cut := [9]) (cs := [(9, 1, 1, 13, [some (.inr (some 111)), some (.inr (some 2)), some (.inr (some 4)), some (.inl (2147483650, 2147483650, 0, 0, 0)), some (.inl (2147483648, 2147483649, 0, 0, 0)), some (.inl (2147483648, 2147483649, 0, 0, 0)), some (.inl (2147483648, 2147483669, 0, 0, 0))], [], [])]) (sp := []) (N := 2) (sv_cv sm_69_a0ebc91b_ok (sv_cv sm_194_740f9c06_ok (sv_cv sm_61_078b38e8_ok (sv_cv sm_194_c5819055_ok (sv_cv sm_63_b486a1fe_ok sv_nv))))) (by decide +kernel)
-- HungerDays$Sentence.readOne(LHungerDays$Reader;LHungerDays$Valley;I)Z (r111, r2, r4, 1)
def sm_69_e3b1067c : sv_SM := (69, 19, 0, [.inr (some 111), .inr (some 2), .inr (some 4), .inl (2147483649, 2147483649, 0, 0, 0)], [], [(2, 4, 12), (111, 0, 1), (112, 0, 39), (113, 0, 39), (114, 0, 39)], [(some (.inl (2147483648, 2147483648, 0, 0, 0)), [], []), (some (.inl (2147483649, 2147483649, 0, 0, 0)), [], [])])
set_option maxRecDepth 1000000 in
theorem sm_69_e3b1067c_ok : sv_valid sg sm_69_e3b1067c := sv_main (S := [sm_60_114ee434, sm_61_078b38e8, sm_188_f939e912, sm_191_53cdc637, sm_191_eb1aa363, sm_188_2ede1899, sm_191_cfe5d42d, sm_191_7732b179, sm_191_988d602b, sm_191_04a57231, sm_69_a0ebc91b, sm_191_7bac425e, sm_198_db3d3f1c, sm_63_b486a1fe, sm_63_05d71500, sm_68_a0ebc91b, sm_190_85f3dad8]) (na := 4) (cut := []) (cs := []) (sp := []) (N := 1) (sv_cv sm_60_114ee434_ok (sv_cv sm_61_078b38e8_ok (sv_cv sm_188_f939e912_ok (sv_cv sm_191_53cdc637_ok (sv_cv sm_191_eb1aa363_ok (sv_cv sm_188_2ede1899_ok (sv_cv sm_191_cfe5d42d_ok (sv_cv sm_191_7732b179_ok (sv_cv sm_191_988d602b_ok (sv_cv sm_191_04a57231_ok (sv_cv sm_69_a0ebc91b_ok (sv_cv sm_191_7bac425e_ok (sv_cv sm_198_db3d3f1c_ok (sv_cv sm_63_b486a1fe_ok (sv_cv sm_63_05d71500_ok (sv_cv sm_68_a0ebc91b_ok (sv_cv sm_190_85f3dad8_ok sv_nv))))))))))))))))) (by decide +kernel)
-- HungerDays$Sentence.readCond(LHungerDays$Reader;LHungerDays$Valley;I)Z (r111, r2, r4, 1)
def sm_68_e3b1067c : sv_SM := (68, 20, 0, [.inr (some 111), .inr (some 2), .inr (some 4), .inl (2147483649, 2147483649, 0, 0, 0)], [], [(2, 4, 12), (111, 0, 1), (112, 0, 39), (113, 0, 39), (114, 0, 39)], [(some (.inl (2147483649, 2147483649, 0, 0, 0)), [], []), (some (.inl (2147483648, 2147483648, 0, 0, 0)), [], [])])
set_option maxRecDepth 1000000 in
theorem sm_68_e3b1067c_ok : sv_valid sg sm_68_e3b1067c := sv_main (S := [sm_69_e3b1067c, sm_194_740f9c06, sm_61_078b38e8, sm_194_c5819055, sm_63_b486a1fe]) (na := 4) (cut := [9]) (cs := [(9, 1, 1, 13, [some (.inr (some 111)), some (.inr (some 2)), some (.inr (some 4)), some (.inl (2147483649, 2147483649, 0, 0, 0)), some (.inl (2147483648, 2147483649, 0, 0, 0)), some (.inl (2147483648, 2147483649, 0, 0, 0)), some (.inl (2147483648, 2147483669, 0, 0, 0))], [], [])]) (sp := []) (N := 2) (sv_cv sm_69_e3b1067c_ok (sv_cv sm_194_740f9c06_ok (sv_cv sm_61_078b38e8_ok (sv_cv sm_194_c5819055_ok (sv_cv sm_63_b486a1fe_ok sv_nv))))) (by decide +kernel)
-- HungerDays$Sentence.readAll(LHungerDays$Reader;LHungerDays$Valley;)Z (r111, r2, r4)
def sm_67_82287ac0 : sv_SM := (67, 21, 0, [.inr (some 111), .inr (some 2), .inr (some 4)], [], [(2, 4, 12), (111, 0, 1), (112, 0, 39), (113, 0, 39), (114, 0, 39)], [(some (.inl (2147483648, 2147483648, 0, 0, 0)), [], []), (some (.inl (2147483649, 2147483649, 0, 0, 0)), [], [])])
set_option maxRecDepth 1000000 in
theorem sm_67_82287ac0_ok : sv_valid sg sm_67_82287ac0 := sv_main (S := [sm_66_d90483a1, sm_68_e3b1067c, sm_59_4187aa83]) (na := 3) (cut := []) (cs := []) (sp := []) (N := 1) (sv_cv sm_66_d90483a1_ok (sv_cv sm_68_e3b1067c_ok (sv_cv sm_59_4187aa83_ok sv_nv))) (by decide +kernel)
-- HungerDays$Sentence.copyFrom(LHungerDays$Sentence;)V (r106, r111)
def sm_65_29301c73 : sv_SM := (65, 1, 0, [.inr (some 106), .inr (some 111)], [], [(106, 0, 1), (107, 0, 47), (108, 0, 47), (109, 0, 47)], [(none, [], [])])
set_option maxRecDepth 1000000 in
theorem sm_65_29301c73_ok : sv_valid sg sm_65_29301c73 := sv_main (S := []) (na := 2) (cut := []) (cs := []) (sp := []) (N := 1) sv_nv (by decide +kernel)
-- HungerDays.sentence()I (r0)
def sm_39_19eb1342 : sv_SM := (39, 22, 0, [.inr (some 0)], [], [(0, 1, 1), (0, 3, 3), (2, 2, 12), (106, 0, 1), (107, 0, 47), (108, 0, 47), (109, 0, 47), (111, 0, 1), (112, 0, 39), (113, 0, 39), (114, 0, 39)], [(some (.inl (0, 4294967295, 0, 0, 0)), [], [])])
set_option maxRecDepth 1000000 in
theorem sm_39_19eb1342_ok : sv_valid sg sm_39_19eb1342 := sv_main (S := [sm_33_31badf4e, sm_67_82287ac0, sm_65_29301c73]) (na := 1) (cut := []) (cs := []) (sp := []) (N := 1) (sv_cv sm_33_31badf4e_ok (sv_cv sm_67_82287ac0_ok (sv_cv sm_65_29301c73_ok sv_nv))) (by decide +kernel)
-- HungerDays$State.goesAhead(IIII)Z ([MIN,MAX], 0, [MIN,MAX], [0,5])
def sm_202_f4503ad1 : sv_SM := (202, 1, 0, [.inl (0, 4294967295, 0, 0, 0), .inl (2147483648, 2147483648, 0, 0, 0), .inl (0, 4294967295, 0, 0, 0), .inl (2147483648, 2147483653, 0, 0, 0)], [], [], [(some (.inl (2147483649, 2147483649, 0, 0, 0)), [], []), (some (.inl (2147483648, 2147483648, 0, 0, 0)), [], [])])
set_option maxRecDepth 1000000 in
theorem sm_202_f4503ad1_ok : sv_valid sg sm_202_f4503ad1 := sv_main (S := []) (na := 4) (cut := []) (cs := []) (sp := []) (N := 1) sv_nv (by decide +kernel)
-- HungerDays$State.goesAhead(IIII)Z ([MIN,MAX], [0,1], [MIN,MAX], [0,5])
def sm_202_3409514b : sv_SM := (202, 1, 0, [.inl (0, 4294967295, 0, 0, 0), .inl (2147483648, 2147483649, 0, 0, 0), .inl (0, 4294967295, 0, 0, 0), .inl (2147483648, 2147483653, 0, 0, 0)], [], [], [(some (.inl (2147483649, 2147483649, 0, 0, 0)), [], []), (some (.inl (2147483648, 2147483648, 0, 0, 0)), [], [])])
set_option maxRecDepth 1000000 in
theorem sm_202_3409514b_ok : sv_valid sg sm_202_3409514b := sv_main (S := []) (na := 4) (cut := []) (cs := []) (sp := []) (N := 1) sv_nv (by decide +kernel)
-- HungerDays$State.goesAhead(IIII)Z ([MIN,MAX], [0,2], [MIN,MAX], [0,5])
def sm_202_50345a75 : sv_SM := (202, 1, 0, [.inl (0, 4294967295, 0, 0, 0), .inl (2147483648, 2147483650, 0, 0, 0), .inl (0, 4294967295, 0, 0, 0), .inl (2147483648, 2147483653, 0, 0, 0)], [], [], [(some (.inl (2147483649, 2147483649, 0, 0, 0)), [], []), (some (.inl (2147483648, 2147483648, 0, 0, 0)), [], [])])
set_option maxRecDepth 1000000 in
theorem sm_202_50345a75_ok : sv_valid sg sm_202_50345a75 := sv_main (S := []) (na := 4) (cut := []) (cs := []) (sp := []) (N := 1) sv_nv (by decide +kernel)
-- HungerDays$State.goesAhead(IIII)Z ([MIN,MAX], [0,3], [MIN,MAX], [0,5])
def sm_202_906d31ef : sv_SM := (202, 1, 0, [.inl (0, 4294967295, 0, 0, 0), .inl (2147483648, 2147483651, 0, 0, 0), .inl (0, 4294967295, 0, 0, 0), .inl (2147483648, 2147483653, 0, 0, 0)], [], [], [(some (.inl (2147483649, 2147483649, 0, 0, 0)), [], []), (some (.inl (2147483648, 2147483648, 0, 0, 0)), [], [])])
set_option maxRecDepth 1000000 in
theorem sm_202_906d31ef_ok : sv_valid sg sm_202_906d31ef := sv_main (S := []) (na := 4) (cut := []) (cs := []) (sp := []) (N := 1) sv_nv (by decide +kernel)
-- HungerDays$State.goesAhead(IIII)Z ([MIN,MAX], [0,4], [MIN,MAX], [0,5])
def sm_202_0bf78b00 : sv_SM := (202, 1, 0, [.inl (0, 4294967295, 0, 0, 0), .inl (2147483648, 2147483652, 0, 0, 0), .inl (0, 4294967295, 0, 0, 0), .inl (2147483648, 2147483653, 0, 0, 0)], [], [], [(some (.inl (2147483649, 2147483649, 0, 0, 0)), [], []), (some (.inl (2147483648, 2147483648, 0, 0, 0)), [], [])])
set_option maxRecDepth 1000000 in
theorem sm_202_0bf78b00_ok : sv_valid sg sm_202_0bf78b00 := sv_main (S := []) (na := 4) (cut := []) (cs := []) (sp := []) (N := 1) sv_nv (by decide +kernel)
-- HungerDays$State.goesAhead(IIII)Z ([MIN,MAX], [0,5], [MIN,MAX], [0,5])
def sm_202_cbaee09a : sv_SM := (202, 1, 0, [.inl (0, 4294967295, 0, 0, 0), .inl (2147483648, 2147483653, 0, 0, 0), .inl (0, 4294967295, 0, 0, 0), .inl (2147483648, 2147483653, 0, 0, 0)], [], [], [(some (.inl (2147483649, 2147483649, 0, 0, 0)), [], []), (some (.inl (2147483648, 2147483648, 0, 0, 0)), [], [])])
set_option maxRecDepth 1000000 in
theorem sm_202_cbaee09a_ok : sv_valid sg sm_202_cbaee09a := sv_main (S := []) (na := 4) (cut := []) (cs := []) (sp := []) (N := 1) sv_nv (by decide +kernel)
-- HungerDays$State.partOf(II)I (r33, [0,999], [0,5])
def sm_210_5eea5e29 : sv_SM := (210, 2, 0, [.inr (some 33), .inl (2147483648, 2147484647, 0, 0, 0), .inl (2147483648, 2147483653, 0, 0, 0)], [(4294967296, 0, 4294967295, 0, 0)], [], [(some (.inl (0, 4294967295, 0, 0, 0)), [], [])])
set_option maxRecDepth 1000000 in
theorem sm_210_5eea5e29_ok : sv_valid sg sm_210_5eea5e29 := sv_main (S := [sm_207_ec8c1eaf, sm_202_cbaee09a]) (na := 3) (cut := [5, 61]) (cs := [(5, 1, 1, 9, [some (.inr (some 33)), some (.inl (2147483648, 2147484647, 0, 0, 0)), some (.inl (2147483648, 2147483653, 0, 0, 0)), some (.inl (0, 4294967295, 0, 0, 0)), some (.inl (2147483648, 2147483654, 0, 0, 0)), none, none], [], [(4294967296, 0, 4294967295, 0, 0)]), (61, 2, 2, 13, [some (.inr (some 33)), some (.inl (2147483648, 2147484647, 0, 0, 0)), some (.inl (2147483648, 2147483653, 0, 0, 0)), some (.inl (0, 2147483647, 0, 0, 0)), some (.inl (0, 4294967295, 0, 0, 0)), some (.inl (0, 4294967295, 0, 0, 0)), some (.inl (2147483648, 2147483654, 0, 0, 0))], [], [(4294967296, 0, 4294967295, 0, 0)]), (61, 3, 3, 13, [some (.inr (some 33)), some (.inl (2147483648, 2147484647, 0, 0, 0)), some (.inl (2147483648, 2147483653, 0, 0, 0)), some (.inl (2147483649, 4294967295, 0, 0, 0)), some (.inl (0, 4294967295, 0, 0, 0)), some (.inl (0, 4294967295, 0, 0, 0)), some (.inl (2147483648, 2147483654, 0, 0, 0))], [], [(4294967296, 0, 4294967295, 0, 0)])]) (sp := []) (N := 4) (sv_cv sm_207_ec8c1eaf_ok (sv_cv sm_202_cbaee09a_ok sv_nv)) (by decide +kernel)
-- HungerDays.share(II)I (r0, [MIN,MAX], [MIN,MAX])
def sm_40_96cac3f7 : sv_SM := (40, 3, 0, [.inr (some 0), .inl (0, 4294967295, 0, 0, 0), .inl (0, 4294967295, 0, 0, 0)], [], [], [(some (.inl (2147483647, 2147483647, 0, 0, 0)), [], []), (some (.inl (0, 4294967295, 0, 0, 0)), [.inr (some 0), .inl (2147483648, 2147484647, 0, 0, 0), .inl (2147483648, 2147483653, 0, 0, 0)], [])])
set_option maxRecDepth 1000000 in
theorem sm_40_96cac3f7_ok : sv_valid sg sm_40_96cac3f7 := sv_main (S := [sm_23_ef2370ea, sm_207_ec8c1eaf, sm_210_5eea5e29]) (na := 3) (cut := []) (cs := []) (sp := []) (N := 1) (sv_cv sm_23_ef2370ea_ok (sv_cv sm_207_ec8c1eaf_ok (sv_cv sm_210_5eea5e29_ok sv_nv))) (by decide +kernel)
-- HungerDays.surely()I (r0)
def sm_42_19eb1342 : sv_SM := (42, 1, 0, [.inr (some 0)], [], [], [(some (.inl (0, 4294967295, 0, 0, 0)), [], [])])
set_option maxRecDepth 1000000 in
theorem sm_42_19eb1342_ok : sv_valid sg sm_42_19eb1342 := sv_main (S := []) (na := 1) (cut := []) (cs := []) (sp := []) (N := 1) sv_nv (by decide +kernel)
-- HungerDays$Plates.dateBehind(LHungerDays$Valley;II)I (r4, [MIN,MAX], [0,192])
def sm_177_09ff2f4b : sv_SM := (177, 2, 0, [.inr (some 4), .inl (0, 4294967295, 0, 0, 0), .inl (2147483648, 2147483840, 0, 0, 0)], [(65536, 0, 4294967295, 0, 0)], [], [(some (.inl (2147483647, 2147483647, 0, 0, 0)), [.inr (some 4), .inl (0, 4294967295, 0, 0, 0), .inl (2147483649, 2147483840, 0, 0, 0)], []), (some (.inl (2147483648, 4294967295, 0, 0, 0)), [], [])])
set_option maxRecDepth 1000000 in
theorem sm_177_09ff2f4b_ok : sv_valid sg sm_177_09ff2f4b := sv_main (S := [sm_183_b14a7d45]) (na := 3) (cut := [8]) (cs := [(8, 1, 1, 11, [some (.inr (some 4)), some (.inl (0, 4294967295, 0, 0, 0)), some (.inl (2147483648, 2147483840, 0, 0, 0)), some (.inl (0, 4294967295, 0, 0, 0)), some (.inl (2147483648, 4294967295, 0, 0, 0)), some (.inl (2147483648, 2147483652, 0, 0, 0)), none], [], [(65536, 0, 4294967295, 0, 0)])]) (sp := []) (N := 2) (sv_cv sm_183_b14a7d45_ok sv_nv) (by decide +kernel)
-- HungerDays$Table.earliestDate()I (r121)
def sm_220_ae9a5151 : sv_SM := (220, 1, 0, [.inr (some 121)], [], [], [(some (.inl (0, 2147483847, 0, 0, 0)), [], [])])
set_option maxRecDepth 1000000 in
theorem sm_220_ae9a5151_ok : sv_valid sg sm_220_ae9a5151 := sv_main (S := []) (na := 1) (cut := [6]) (cs := [(6, 1, 1, 5, [some (.inr (some 121)), some (.inl (0, 2147483847, 0, 0, 0)), some (.inl (2147483648, 2147483654, 0, 0, 0))], [], [])]) (sp := []) (N := 2) sv_nv (by decide +kernel)
-- HungerDays$Plates.portionsIn(I)I ([0,192])
def sm_182_45a32b03 : sv_SM := (182, 1, 0, [.inl (2147483648, 2147483840, 0, 0, 0)], [], [], [(some (.inl (2147483648, 2147483660, 0, 0, 0)), [], [])])
set_option maxRecDepth 1000000 in
theorem sm_182_45a32b03_ok : sv_valid sg sm_182_45a32b03 := sv_main (S := []) (na := 1) (cut := []) (cs := []) (sp := []) (N := 1) sv_nv (by decide +kernel)
-- HungerDays$Table.storesCode()I (r121)
def sm_227_ae9a5151 : sv_SM := (227, 1, 0, [.inr (some 121)], [], [], [(some (.inl (0, 4294967295, 0, 0, 0)), [], [])])
set_option maxRecDepth 1000000 in
theorem sm_227_ae9a5151_ok : sv_valid sg sm_227_ae9a5151 := sv_main (S := []) (na := 1) (cut := [4]) (cs := [(4, 1, 1, 0, [some (.inr (some 121)), some (.inl (2147483648, 2147483648, 0, 0, 0)), some (.inl (2147483651, 2147483651, 0, 0, 0))], [], []), (4, 2, 2, 0, [some (.inr (some 121)), some (.inl (0, 4294967295, 0, 0, 0)), some (.inl (2147483650, 2147483650, 0, 0, 0))], [], []), (4, 3, 3, 0, [some (.inr (some 121)), some (.inl (0, 4294967295, 0, 0, 0)), some (.inl (2147483649, 2147483649, 0, 0, 0))], [], []), (4, 4, 4, 0, [some (.inr (some 121)), some (.inl (0, 4294967295, 0, 0, 0)), some (.inl (2147483648, 2147483648, 0, 0, 0))], [], []), (4, 5, 5, 0, [some (.inr (some 121)), some (.inl (0, 4294967295, 0, 0, 0)), some (.inl (2147483647, 2147483647, 0, 0, 0))], [], [])]) (sp := []) (N := 6) sv_nv (by decide +kernel)
