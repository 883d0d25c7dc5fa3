-- by program (wip/p2): summaries, checked
-- HungerDaysModel.isIn(III)Z ([MIN,MAX], 0, 7)
def sm_574 : sv_SM := (115, 1, 0, [.inl (0, 4294967295, 0, 0, 0), .inl (2147483648, 2147483648, 0, 0, 0), .inl (2147483655, 2147483655, 0, 0, 0)], [], [], [(some (.inl (2147483649, 2147483649, 0, 0, 0)), [.inl (2147483648, 2147483655, 0, 0, 0)], []), (some (.inl (2147483648, 2147483648, 0, 0, 0)), [], [])])
set_option maxRecDepth 1000000 in
theorem sm_574_ok : sv_valid sg sm_574 := sv_main (S := []) (na := 3) (cut := []) (cs := []) (sp := []) (N := 1) sv_nv (by decide +kernel)
-- HungerDaysModel.throwsIf(Z)Z (r184, [0,1])
def sm_575 : sv_SM := (160, 1, 0, [.inr (some 184), .inl (2147483648, 2147483649, 0, 0, 0)], [], [(184, 0, 0)], [(some (.inl (2147483649, 2147483649, 0, 0, 0)), [.inr (some 184), .inl (2147483649, 2147483649, 0, 0, 0)], []), (some (.inl (2147483648, 2147483648, 0, 0, 0)), [.inr (some 184), .inl (2147483648, 2147483648, 0, 0, 0)], [])])
set_option maxRecDepth 1000000 in
theorem sm_575_ok : sv_valid sg sm_575 := sv_main (S := []) (na := 2) (cut := []) (cs := []) (sp := []) (N := 1) sv_nv (by decide +kernel)
-- HungerDaysModel.owes(I)I (r184, [MIN,MAX])
def sm_576 : sv_SM := (278, 2, 0, [.inr (some 184), .inl (0, 4294967295, 0, 0, 0)], [], [], [(some (.inl (0, 4294967295, 0, 0, 0)), [], [])])
set_option maxRecDepth 1000000 in
theorem sm_576_ok : sv_valid sg sm_576 := sv_main (S := [sm_46]) (na := 2) (cut := [4]) (cs := [(4, 1, 1, 7, [some (.inr (some 184)), some (.inl (0, 4294967295, 0, 0, 0)), some (.inl (0, 4294967295, 0, 0, 0)), some (.inl (2147483648, 2147483658, 0, 0, 0))], [], [])]) (sp := []) (N := 2) (sv_cv sm_46_ok sv_nv) (by decide +kernel)
-- HungerDaysModel.person(II)I (r184, [MIN,MAX], [MIN,MAX])
def sm_577 : sv_SM := (161, 3, 0, [.inr (some 184), .inl (0, 4294967295, 0, 0, 0), .inl (0, 4294967295, 0, 0, 0)], [], [(184, 0, 0)], [(some (.inl (0, 4294967295, 0, 0, 0)), [], [])])
set_option maxRecDepth 1000000 in
theorem sm_577_ok : sv_valid sg sm_577 := sv_main (S := [sm_4, sm_574, sm_575, sm_5, sm_6, sm_47, sm_576]) (na := 3) (cut := [37]) (cs := [(37, 1, 1, 9, [some (.inr (some 184)), some (.inl (2147483648, 2147483653, 0, 0, 0)), some (.inl (2147483648, 2147483655, 0, 0, 0)), some (.inl (0, 4294967295, 0, 0, 0)), some (.inl (2147483648, 2147483654, 0, 0, 0))], [], [])]) (sp := []) (N := 2) (sv_cv sm_4_ok (sv_cv sm_574_ok (sv_cv sm_575_ok (sv_cv sm_5_ok (sv_cv sm_6_ok (sv_cv sm_47_ok (sv_cv sm_576_ok sv_nv))))))) (by decide +kernel)
-- HungerDaysModel.debt(II)I (r184, [MIN,MAX], [MIN,MAX])
def sm_578 : sv_SM := (162, 4, 0, [.inr (some 184), .inl (0, 4294967295, 0, 0, 0), .inl (0, 4294967295, 0, 0, 0)], [], [(184, 0, 0)], [(some (.inl (0, 4294967295, 0, 0, 0)), [], [])])
set_option maxRecDepth 1000000 in
theorem sm_578_ok : sv_valid sg sm_578 := sv_main (S := [sm_107, sm_561, sm_575, sm_69]) (na := 3) (cut := []) (cs := []) (sp := []) (N := 1) (sv_cv sm_107_ok (sv_cv sm_561_ok (sv_cv sm_575_ok (sv_cv sm_69_ok sv_nv)))) (by decide +kernel)
-- HungerDays.isPerson(I)Z (r0, [MIN,MAX])
def sm_579 : sv_SM := (23, 1, 0, [.inr (some 0), .inl (0, 4294967295, 0, 0, 0)], [], [], [(some (.inl (2147483649, 2147483649, 0, 0, 0)), [.inr (some 0), .inl (2147483648, 2147483653, 0, 0, 0)], []), (some (.inl (2147483648, 2147483648, 0, 0, 0)), [], [])])
set_option maxRecDepth 1000000 in
theorem sm_579_ok : sv_valid sg sm_579 := sv_main (S := []) (na := 2) (cut := []) (cs := []) (sp := []) (N := 1) sv_nv (by decide +kernel)
-- HungerDays$State.isIll(I)Z (r33, [0,5])
def sm_580 : sv_SM := (207, 1, 0, [.inr (some 33), .inl (2147483648, 2147483653, 0, 0, 0)], [], [], [(some (.inl (2147483649, 2147483649, 0, 0, 0)), [], []), (some (.inl (2147483648, 2147483648, 0, 0, 0)), [], [])])
set_option maxRecDepth 1000000 in
theorem sm_580_ok : sv_valid sg sm_580 := sv_main (S := []) (na := 2) (cut := []) (cs := []) (sp := []) (N := 1) sv_nv (by decide +kernel)
-- HungerDays$State.whyNotAil(I)I (r33, [0,5])
def sm_581 : sv_SM := (215, 2, 0, [.inr (some 33), .inl (2147483648, 2147483653, 0, 0, 0)], [], [], [(some (.inl (2147483648, 2147483649, 0, 0, 0)), [], [])])
set_option maxRecDepth 1000000 in
theorem sm_581_ok : sv_valid sg sm_581 := sv_main (S := [sm_580]) (na := 2) (cut := []) (cs := []) (sp := []) (N := 1) (sv_cv sm_580_ok sv_nv) (by decide +kernel)
-- HungerDays$State.copyFrom(LHungerDays$State;)V (r98, r33)
def sm_582 : sv_SM := (72, 1, 0, [.inr (some 98), .inr (some 33)], [], [(98, 1, 3), (99, 0, 15), (100, 0, 15), (101, 0, 15), (102, 0, 15), (103, 0, 15), (104, 0, 15)], [(none, [], [])])
set_option maxRecDepth 1000000 in
theorem sm_582_ok : sv_valid sg sm_582 := sv_main (S := []) (na := 2) (cut := []) (cs := []) (sp := []) (N := 1) sv_nv (by decide +kernel)
-- HungerDays$State.copyFrom(LHungerDays$State;)V (r91, r33)
def sm_583 : sv_SM := (72, 1, 0, [.inr (some 91), .inr (some 33)], [], [(91, 1, 3), (92, 0, 15), (93, 0, 15), (94, 0, 15), (95, 0, 15), (96, 0, 15), (97, 0, 15)], [(none, [], [])])
set_option maxRecDepth 1000000 in
theorem sm_583_ok : sv_valid sg sm_583 := sv_main (S := []) (na := 2) (cut := []) (cs := []) (sp := []) (N := 1) sv_nv (by decide +kernel)
-- HungerDays$State.copyFrom(LHungerDays$State;)V (r84, r33)
def sm_584 : sv_SM := (72, 1, 0, [.inr (some 84), .inr (some 33)], [], [(84, 1, 3), (85, 0, 15), (86, 0, 15), (87, 0, 15), (88, 0, 15), (89, 0, 15), (90, 0, 15)], [(none, [], [])])
set_option maxRecDepth 1000000 in
theorem sm_584_ok : sv_valid sg sm_584 := sv_main (S := []) (na := 2) (cut := []) (cs := []) (sp := []) (N := 1) sv_nv (by decide +kernel)
-- HungerDays$State.copyFrom(LHungerDays$State;)V (r77, r33)
def sm_585 : sv_SM := (72, 1, 0, [.inr (some 77), .inr (some 33)], [], [(77, 1, 3), (78, 0, 15), (79, 0, 15), (80, 0, 15), (81, 0, 15), (82, 0, 15), (83, 0, 15)], [(none, [], [])])
set_option maxRecDepth 1000000 in
theorem sm_585_ok : sv_valid sg sm_585 := sv_main (S := []) (na := 2) (cut := []) (cs := []) (sp := []) (N := 1) sv_nv (by decide +kernel)
-- HungerDays$State.copyFrom(LHungerDays$State;)V (r70, r33)
def sm_586 : sv_SM := (72, 1, 0, [.inr (some 70), .inr (some 33)], [], [(70, 1, 3), (71, 0, 15), (72, 0, 15), (73, 0, 15), (74, 0, 15), (75, 0, 15), (76, 0, 15)], [(none, [], [])])
set_option maxRecDepth 1000000 in
theorem sm_586_ok : sv_valid sg sm_586 := sv_main (S := []) (na := 2) (cut := []) (cs := []) (sp := []) (N := 1) sv_nv (by decide +kernel)
-- HungerDays$State.copyFrom(LHungerDays$State;)V (r63, r33)
def sm_587 : sv_SM := (72, 1, 0, [.inr (some 63), .inr (some 33)], [], [(63, 1, 3), (64, 0, 15), (65, 0, 15), (66, 0, 15), (67, 0, 15), (68, 0, 15), (69, 0, 15)], [(none, [], [])])
set_option maxRecDepth 1000000 in
theorem sm_587_ok : sv_valid sg sm_587 := sv_main (S := []) (na := 2) (cut := []) (cs := []) (sp := []) (N := 1) sv_nv (by decide +kernel)
-- HungerDays$State.copyFrom(LHungerDays$State;)V (r56, r33)
def sm_588 : sv_SM := (72, 1, 0, [.inr (some 56), .inr (some 33)], [], [(56, 1, 3), (57, 0, 15), (58, 0, 15), (59, 0, 15), (60, 0, 15), (61, 0, 15), (62, 0, 15)], [(none, [], [])])
set_option maxRecDepth 1000000 in
theorem sm_588_ok : sv_valid sg sm_588 := sv_main (S := []) (na := 2) (cut := []) (cs := []) (sp := []) (N := 1) sv_nv (by decide +kernel)
-- HungerDays$State.copyFrom(LHungerDays$State;)V (r49, r33)
def sm_589 : sv_SM := (72, 1, 0, [.inr (some 49), .inr (some 33)], [], [(49, 1, 3), (50, 0, 15), (51, 0, 15), (52, 0, 15), (53, 0, 15), (54, 0, 15), (55, 0, 15)], [(none, [], [])])
set_option maxRecDepth 1000000 in
theorem sm_589_ok : sv_valid sg sm_589 := sv_main (S := []) (na := 2) (cut := []) (cs := []) (sp := []) (N := 1) sv_nv (by decide +kernel)
-- HungerDays$History.keep(LHungerDays$State;)V (r47, r33)
def sm_590 : sv_SM := (55, 2, 0, [.inr (some 47), .inr (some 33)], [], [(47, 1, 2), (49, 1, 3), (50, 0, 15), (51, 0, 15), (52, 0, 15), (53, 0, 15), (54, 0, 15), (55, 0, 15), (56, 1, 3), (57, 0, 15), (58, 0, 15), (59, 0, 15), (60, 0, 15), (61, 0, 15), (62, 0, 15), (63, 1, 3), (64, 0, 15), (65, 0, 15), (66, 0, 15), (67, 0, 15), (68, 0, 15), (69, 0, 15), (70, 1, 3), (71, 0, 15), (72, 0, 15), (73, 0, 15), (74, 0, 15), (75, 0, 15), (76, 0, 15), (77, 1, 3), (78, 0, 15), (79, 0, 15), (80, 0, 15), (81, 0, 15), (82, 0, 15), (83, 0, 15), (84, 1, 3), (85, 0, 15), (86, 0, 15), (87, 0, 15), (88, 0, 15), (89, 0, 15), (90, 0, 15), (91, 1, 3), (92, 0, 15), (93, 0, 15), (94, 0, 15), (95, 0, 15), (96, 0, 15), (97, 0, 15), (98, 1, 3), (99, 0, 15), (100, 0, 15), (101, 0, 15), (102, 0, 15), (103, 0, 15), (104, 0, 15)], [(none, [], [])])
set_option maxRecDepth 1000000 in
theorem sm_590_ok : sv_valid sg sm_590 := sv_main (S := [sm_582, sm_583, sm_584, sm_585, sm_586, sm_587, sm_588, sm_589]) (na := 2) (cut := []) (cs := []) (sp := []) (N := 1) (sv_cv sm_582_ok (sv_cv sm_583_ok (sv_cv sm_584_ok (sv_cv sm_585_ok (sv_cv sm_586_ok (sv_cv sm_587_ok (sv_cv sm_588_ok (sv_cv sm_589_ok sv_nv)))))))) (by decide +kernel)
-- HungerDays$State.turnHealth(I)V (r33, [0,5])
def sm_591 : sv_SM := (213, 1, 0, [.inr (some 33), .inl (2147483648, 2147483653, 0, 0, 0)], [], [(33, 2, 2)], [(none, [], [])])
set_option maxRecDepth 1000000 in
theorem sm_591_ok : sv_valid sg sm_591 := sv_main (S := []) (na := 2) (cut := []) (cs := []) (sp := []) (N := 1) sv_nv (by decide +kernel)
-- HungerDays.ail(I)I (r0, [MIN,MAX])
def sm_592 : sv_SM := (1, 3, 0, [.inr (some 0), .inl (0, 4294967295, 0, 0, 0)], [], [(33, 2, 2), (47, 1, 2), (49, 1, 3), (50, 0, 15), (51, 0, 15), (52, 0, 15), (53, 0, 15), (54, 0, 15), (55, 0, 15), (56, 1, 3), (57, 0, 15), (58, 0, 15), (59, 0, 15), (60, 0, 15), (61, 0, 15), (62, 0, 15), (63, 1, 3), (64, 0, 15), (65, 0, 15), (66, 0, 15), (67, 0, 15), (68, 0, 15), (69, 0, 15), (70, 1, 3), (71, 0, 15), (72, 0, 15), (73, 0, 15), (74, 0, 15), (75, 0, 15), (76, 0, 15), (77, 1, 3), (78, 0, 15), (79, 0, 15), (80, 0, 15), (81, 0, 15), (82, 0, 15), (83, 0, 15), (84, 1, 3), (85, 0, 15), (86, 0, 15), (87, 0, 15), (88, 0, 15), (89, 0, 15), (90, 0, 15), (91, 1, 3), (92, 0, 15), (93, 0, 15), (94, 0, 15), (95, 0, 15), (96, 0, 15), (97, 0, 15), (98, 1, 3), (99, 0, 15), (100, 0, 15), (101, 0, 15), (102, 0, 15), (103, 0, 15), (104, 0, 15)], [(some (.inl (2147483647, 2147483647, 0, 0, 0)), [], []), (some (.inl (2147483648, 2147483649, 0, 0, 0)), [.inr (some 0), .inl (2147483648, 2147483653, 0, 0, 0)], [])])
set_option maxRecDepth 1000000 in
theorem sm_592_ok : sv_valid sg sm_592 := sv_main (S := [sm_579, sm_581, sm_590, sm_591]) (na := 2) (cut := []) (cs := []) (sp := []) (N := 1) (sv_cv sm_579_ok (sv_cv sm_581_ok (sv_cv sm_590_ok (sv_cv sm_591_ok sv_nv)))) (by decide +kernel)
-- HungerDays.ask()I (r0)
def sm_593 : sv_SM := (2, 1, 0, [.inr (some 0)], [], [], [(some (.inl (0, 4294967295, 0, 0, 0)), [], [])])
set_option maxRecDepth 1000000 in
theorem sm_593_ok : sv_valid sg sm_593 := sv_main (S := []) (na := 1) (cut := []) (cs := []) (sp := []) (N := 1) sv_nv (by decide +kernel)
-- HungerDays$Plates.portionsOf(II)I ([0,192], 0)
def sm_594 : sv_SM := (183, 1, 0, [.inl (2147483648, 2147483840, 0, 0, 0), .inl (2147483648, 2147483648, 0, 0, 0)], [], [], [(some (.inl (2147483648, 2147483651, 0, 0, 0)), [], [])])
set_option maxRecDepth 1000000 in
theorem sm_594_ok : sv_valid sg sm_594 := sv_main (S := []) (na := 2) (cut := []) (cs := []) (sp := []) (N := 1) sv_nv (by decide +kernel)
-- HungerDays$Plates.portionsOf(II)I ([0,192], [0,1])
def sm_595 : sv_SM := (183, 1, 0, [.inl (2147483648, 2147483840, 0, 0, 0), .inl (2147483648, 2147483649, 0, 0, 0)], [], [], [(some (.inl (2147483648, 2147483651, 0, 0, 0)), [], [])])
set_option maxRecDepth 1000000 in
theorem sm_595_ok : sv_valid sg sm_595 := sv_main (S := []) (na := 2) (cut := []) (cs := []) (sp := []) (N := 1) sv_nv (by decide +kernel)
-- HungerDays$Plates.portionsOf(II)I ([0,192], [0,2])
def sm_596 : sv_SM := (183, 1, 0, [.inl (2147483648, 2147483840, 0, 0, 0), .inl (2147483648, 2147483650, 0, 0, 0)], [], [], [(some (.inl (2147483648, 2147483651, 0, 0, 0)), [], [])])
set_option maxRecDepth 1000000 in
theorem sm_596_ok : sv_valid sg sm_596 := sv_main (S := []) (na := 2) (cut := []) (cs := []) (sp := []) (N := 1) sv_nv (by decide +kernel)
-- HungerDays$Plates.portionsOf(II)I ([0,192], [0,3])
def sm_597 : sv_SM := (183, 1, 0, [.inl (2147483648, 2147483840, 0, 0, 0), .inl (2147483648, 2147483651, 0, 0, 0)], [], [], [(some (.inl (2147483648, 2147483651, 0, 0, 0)), [], [])])
set_option maxRecDepth 1000000 in
theorem sm_597_ok : sv_valid sg sm_597 := sv_main (S := []) (na := 2) (cut := []) (cs := []) (sp := []) (N := 1) sv_nv (by decide +kernel)
-- HungerDays$Plates.dateBehind(LHungerDays$Valley;II)I (r4, [0,255], [0,192])
def sm_598 : sv_SM := (177, 2, 0, [.inr (some 4), .inl (2147483648, 2147483903, 0, 0, 0), .inl (2147483648, 2147483840, 0, 0, 0)], [(65536, 0, 4294967295, 0, 0)], [], [(some (.inl (2147483647, 2147483647, 0, 0, 0)), [.inr (some 4), .inl (2147483648, 2147483903, 0, 0, 0), .inl (2147483649, 2147483840, 0, 0, 0)], []), (some (.inl (2147483648, 4294967295, 0, 0, 0)), [], [])])
set_option maxRecDepth 1000000 in
theorem sm_598_ok : sv_valid sg sm_598 := sv_main (S := [sm_597]) (na := 3) (cut := [8]) (cs := [(8, 1, 1, 11, [some (.inr (some 4)), some (.inl (2147483648, 2147483903, 0, 0, 0)), some (.inl (2147483648, 2147483840, 0, 0, 0)), some (.inl (0, 4294967295, 0, 0, 0)), some (.inl (2147483648, 4294967295, 0, 0, 0)), some (.inl (2147483648, 2147483652, 0, 0, 0)), none], [], [(65536, 0, 4294967295, 0, 0)])]) (sp := []) (N := 2) (sv_cv sm_597_ok sv_nv) (by decide +kernel)
-- HungerDays$Plates.notePlate(II)I (r128, [0,4], [0,192])
def sm_599 : sv_SM := (181, 2, 0, [.inr (some 128), .inl (2147483648, 2147483652, 0, 0, 0), .inl (2147483648, 2147483840, 0, 0, 0)], [], [(129, 0, 3)], [(some (.inl (0, 4294967295, 0, 0, 0)), [], [])])
set_option maxRecDepth 1000000 in
theorem sm_599_ok : sv_valid sg sm_599 := sv_main (S := [sm_597]) (na := 3) (cut := [5]) (cs := [(5, 1, 1, 9, [some (.inr (some 128)), some (.inl (2147483648, 2147483652, 0, 0, 0)), some (.inl (2147483648, 2147483840, 0, 0, 0)), some (.inl (0, 4294967295, 0, 0, 0)), some (.inl (2147483648, 2147483652, 0, 0, 0)), none], [], [])]) (sp := []) (N := 2) (sv_cv sm_597_ok sv_nv) (by decide +kernel)
-- java/lang/Integer.bitCount(I)I ([MIN,MAX])
def sm_600 : sv_SM := (152, 1, 0, [.inl (0, 4294967295, 0, 0, 0)], [], [], [(some (.inl (2147483648, 2147483711, 0, 0, 0)), [], [])])
set_option maxRecDepth 1000000 in
theorem sm_600_ok : sv_valid sg sm_600 := sv_main (S := []) (na := 0) (cut := []) (cs := []) (sp := []) (N := 1) sv_nv (by decide +kernel)
-- HungerDays$Plates.mostUnlike(I)I (r128, [0,4])
def sm_601 : sv_SM := (180, 2, 0, [.inr (some 128), .inl (2147483648, 2147483652, 0, 0, 0)], [], [], [(some (.inl (2147483647, 2147483651, 0, 0, 0)), [], [])])
set_option maxRecDepth 1000000 in
theorem sm_601_ok : sv_valid sg sm_601 := sv_main (S := [sm_600]) (na := 2) (cut := [7]) (cs := [(7, 1, 1, 9, [some (.inr (some 128)), some (.inl (2147483648, 2147483652, 0, 0, 0)), some (.inl (2147483647, 2147483651, 0, 0, 0)), some (.inl (2147483648, 2147483711, 0, 0, 0)), some (.inl (2147483648, 2147483652, 0, 0, 0)), none], [], [])]) (sp := []) (N := 2) (sv_cv sm_600_ok sv_nv) (by decide +kernel)
-- HungerDays$Reader.readRun()V (r2)
def sm_604 : sv_SM := (187, 1, 32772, [.inr (some 2)], [(32772, 2147483648, 2147484588, 1, 0)], [(2, 4, 5), (2, 7, 9)], [(none, [], [(32772, 2147483648, 2147484588, 1, 0)])])
set_option maxRecDepth 1000000 in
theorem sm_604_ok : sv_valid sg sm_604 := sv_main (S := []) (na := 1) (cut := [14, 153]) (cs := [(14, 1, 1, 65546, [some (.inr (some 2)), some (.inl (0, 4294967295, 0, 0, 0)), some (.inl (0, 4294967295, 0, 0, 0)), none], [], [(32772, 2147483648, 2147484588, 1, 0)]), (153, 2, 2, 7, [some (.inr (some 2)), some (.inl (0, 2147483655, 0, 0, 0)), some (.inl (0, 2147483648, 0, 0, 0)), some (.inl (2147483648, 2147483670, 0, 0, 0))], [], [(32772, 2147483648, 2147484588, 1, 0)])]) (sp := []) (N := 3) sv_nv (by decide +kernel)
-- HungerDays$Reader.next()V (r2)
def sm_605 : sv_SM := (61, 2, 32772, [.inr (some 2)], [(32772, 2147483648, 2147484588, 1, 0)], [(2, 4, 10)], [(none, [], [(32772, 2147483648, 2147484588, 1, 0)]), (none, [], [(32772, 2147483649, 2147484588, 2, 0)])])
set_option maxRecDepth 1000000 in
theorem sm_605_ok : sv_valid sg sm_605 := sv_main (S := [sm_604]) (na := 1) (cut := [12]) (cs := [(12, 1, 1, 65546, [some (.inr (some 2)), some (.inl (2147483648, 2147484588, 0, 0, 0)), none], [], [(32772, 2147483648, 2147484588, 1, 0)])]) (sp := []) (N := 2) (sv_cv sm_604_ok sv_nv) (by decide +kernel)
-- HungerDays$Reader.open(II)V (r2, [0,940], 400)
def sm_606 : sv_SM := (62, 3, 0, [.inr (some 2), .inl (2147483648, 2147484588, 0, 0, 0), .inl (2147484048, 2147484048, 0, 0, 0)], [], [(2, 2, 12)], [(none, [], [])])
set_option maxRecDepth 1000000 in
theorem sm_606_ok : sv_valid sg sm_606 := sv_main (S := [sm_605]) (na := 3) (cut := []) (cs := []) (sp := []) (N := 1) (sv_cv sm_605_ok sv_nv) (by decide +kernel)
-- HungerDays.openTape(I)V (r0, 400)
def sm_607 : sv_SM := (33, 4, 0, [.inr (some 0), .inl (2147484048, 2147484048, 0, 0, 0)], [], [(0, 1, 1), (2, 2, 12)], [(none, [], [])])
set_option maxRecDepth 1000000 in
theorem sm_607_ok : sv_valid sg sm_607 := sv_main (S := [sm_606]) (na := 2) (cut := []) (cs := []) (sp := []) (N := 1) (sv_cv sm_606_ok sv_nv) (by decide +kernel)
-- HungerDays$Reader.refuse(I)Z (r2, 1)
def sm_608 : sv_SM := (63, 1, 0, [.inr (some 2), .inl (2147483649, 2147483649, 0, 0, 0)], [], [(2, 11, 12)], [(some (.inl (2147483648, 2147483648, 0, 0, 0)), [], [])])
set_option maxRecDepth 1000000 in
theorem sm_608_ok : sv_valid sg sm_608 := sv_main (S := []) (na := 2) (cut := []) (cs := []) (sp := []) (N := 1) sv_nv (by decide +kernel)
-- HungerDays$Reader.closes()Z (r2)
def sm_609 : sv_SM := (59, 2, 0, [.inr (some 2)], [], [(2, 11, 12)], [(some (.inl (2147483648, 2147483648, 0, 0, 0)), [], []), (some (.inl (2147483649, 2147483649, 0, 0, 0)), [], [])])
set_option maxRecDepth 1000000 in
theorem sm_609_ok : sv_valid sg sm_609 := sv_main (S := [sm_608]) (na := 1) (cut := []) (cs := []) (sp := []) (N := 1) (sv_cv sm_608_ok sv_nv) (by decide +kernel)
-- HungerDays$Reader.isName()Z (r2)
def sm_610 : sv_SM := (185, 1, 0, [.inr (some 2)], [], [], [(some (.inl (2147483649, 2147483649, 0, 0, 0)), [], []), (some (.inl (2147483648, 2147483648, 0, 0, 0)), [], [])])
set_option maxRecDepth 1000000 in
theorem sm_610_ok : sv_valid sg sm_610 := sv_main (S := []) (na := 1) (cut := []) (cs := []) (sp := []) (N := 1) sv_nv (by decide +kernel)
-- HungerDays$Valley.numberOf(IJ)I (r4, 0, l)
def sm_611 : sv_SM := (232, 1, 0, [.inr (some 4), .inl (2147483648, 2147483648, 0, 0, 0), .inr none], [], [], [(some (.inl (2147483648, 2147483653, 0, 0, 0)), [], []), (some (.inl (2147483647, 2147483647, 0, 0, 0)), [], [])])
set_option maxRecDepth 1000000 in
theorem sm_611_ok : sv_valid sg sm_611 := sv_main (S := []) (na := 2) (cut := [61]) (cs := [(61, 1, 1, 13, [some (.inr (some 4)), some (.inl (2147483648, 2147483648, 0, 0, 0)), some (.inr none), none, some (.inr (some 5)), some (.inl (2147483648, 2147483654, 0, 0, 0)), some (.inl (2147483648, 2147483654, 0, 0, 0))], [], [])]) (sp := []) (N := 2) sv_nv (by decide +kernel)
-- HungerDays$Reader.refuse(I)Z (r2, 3)
def sm_612 : sv_SM := (63, 1, 0, [.inr (some 2), .inl (2147483651, 2147483651, 0, 0, 0)], [], [(2, 11, 12)], [(some (.inl (2147483648, 2147483648, 0, 0, 0)), [], [])])
set_option maxRecDepth 1000000 in
theorem sm_612_ok : sv_valid sg sm_612 := sv_main (S := []) (na := 2) (cut := []) (cs := []) (sp := []) (N := 1) sv_nv (by decide +kernel)
-- HungerDays$Reader.isGood()Z (r2)
def sm_613 : sv_SM := (184, 1, 0, [.inr (some 2)], [], [], [(some (.inl (2147483649, 2147483649, 0, 0, 0)), [], []), (some (.inl (2147483648, 2147483648, 0, 0, 0)), [], [])])
set_option maxRecDepth 1000000 in
theorem sm_613_ok : sv_valid sg sm_613 := sv_main (S := []) (na := 1) (cut := []) (cs := []) (sp := []) (N := 1) sv_nv (by decide +kernel)
-- HungerDays$Reader.lookNamed(LHungerDays$Valley;I)I (r2, r4, 0)
def sm_614 : sv_SM := (186, 2, 0, [.inr (some 2), .inr (some 4), .inl (2147483648, 2147483648, 0, 0, 0)], [], [(2, 11, 12)], [(some (.inl (2147483647, 2147483647, 0, 0, 0)), [], []), (some (.inl (2147483648, 2147483653, 0, 0, 0)), [], [])])
set_option maxRecDepth 1000000 in
theorem sm_614_ok : sv_valid sg sm_614 := sv_main (S := [sm_610, sm_608, sm_611, sm_612, sm_613]) (na := 3) (cut := []) (cs := []) (sp := []) (N := 1) (sv_cv sm_610_ok (sv_cv sm_608_ok (sv_cv sm_611_ok (sv_cv sm_612_ok (sv_cv sm_613_ok sv_nv))))) (by decide +kernel)
-- HungerDays$Reader.refuse(I)Z (r2, 4)
def sm_615 : sv_SM := (63, 1, 0, [.inr (some 2), .inl (2147483652, 2147483652, 0, 0, 0)], [], [(2, 11, 12)], [(some (.inl (2147483648, 2147483648, 0, 0, 0)), [], [])])
set_option maxRecDepth 1000000 in
theorem sm_615_ok : sv_valid sg sm_615 := sv_main (S := []) (na := 2) (cut := []) (cs := []) (sp := []) (N := 1) sv_nv (by decide +kernel)
-- HungerDays$Valley.numberOf(IJ)I (r4, 1, l)
def sm_616 : sv_SM := (232, 1, 0, [.inr (some 4), .inl (2147483649, 2147483649, 0, 0, 0), .inr none], [], [], [(some (.inl (2147483648, 2147483651, 0, 0, 0)), [], []), (some (.inl (2147483647, 2147483647, 0, 0, 0)), [], [])])
set_option maxRecDepth 1000000 in
theorem sm_616_ok : sv_valid sg sm_616 := sv_main (S := []) (na := 2) (cut := [61]) (cs := [(61, 1, 1, 13, [some (.inr (some 4)), some (.inl (2147483649, 2147483649, 0, 0, 0)), some (.inr none), none, some (.inr (some 6)), some (.inl (2147483648, 2147483652, 0, 0, 0)), some (.inl (2147483648, 2147483652, 0, 0, 0))], [], [])]) (sp := []) (N := 2) sv_nv (by decide +kernel)
-- HungerDays$Reader.lookNamed(LHungerDays$Valley;I)I (r2, r4, 1)
def sm_617 : sv_SM := (186, 2, 0, [.inr (some 2), .inr (some 4), .inl (2147483649, 2147483649, 0, 0, 0)], [], [(2, 11, 12)], [(some (.inl (2147483647, 2147483647, 0, 0, 0)), [], []), (some (.inl (2147483648, 2147483651, 0, 0, 0)), [], [])])
set_option maxRecDepth 1000000 in
theorem sm_617_ok : sv_valid sg sm_617 := sv_main (S := [sm_610, sm_608, sm_616, sm_612, sm_613]) (na := 3) (cut := []) (cs := []) (sp := []) (N := 1) (sv_cv sm_610_ok (sv_cv sm_608_ok (sv_cv sm_616_ok (sv_cv sm_612_ok (sv_cv sm_613_ok sv_nv))))) (by decide +kernel)
-- HungerDays$Reader.takeNamed(LHungerDays$Valley;I)I (r2, r4, 1)
def sm_618 : sv_SM := (188, 3, 0, [.inr (some 2), .inr (some 4), .inl (2147483649, 2147483649, 0, 0, 0)], [], [(2, 4, 12)], [(some (.inl (2147483648, 2147483651, 0, 0, 0)), [], []), (some (.inl (2147483647, 2147483647, 0, 0, 0)), [], [])])
set_option maxRecDepth 1000000 in
theorem sm_618_ok : sv_valid sg sm_618 := sv_main (S := [sm_617, sm_605]) (na := 3) (cut := []) (cs := []) (sp := []) (N := 1) (sv_cv sm_617_ok (sv_cv sm_605_ok sv_nv)) (by decide +kernel)
-- HungerDays$Book.readAct()Z (r116)
def sm_619 : sv_SM := (170, 4, 0, [.inr (some 116)], [(1900546, 2147483648, 2147483687, 0, 0)], [(2, 4, 12), (117, 0, 39), (119, 0, 39)], [(some (.inl (2147483648, 2147483648, 0, 0, 0)), [], [(1900546, 2147483648, 2147483687, 0, 0)]), (some (.inl (2147483649, 2147483649, 0, 0, 0)), [], [(1900546, 2147483648, 2147483687, 0, 0)])])
set_option maxRecDepth 1000000 in
theorem sm_619_ok : sv_valid sg sm_619 := sv_main (S := [sm_608, sm_605, sm_618]) (na := 1) (cut := []) (cs := []) (sp := []) (N := 1) (sv_cv sm_608_ok (sv_cv sm_605_ok (sv_cv sm_618_ok sv_nv))) (by decide +kernel)
-- HungerDays$Reader.refuse(I)Z (r2, 2)
def sm_620 : sv_SM := (63, 1, 0, [.inr (some 2), .inl (2147483650, 2147483650, 0, 0, 0)], [], [(2, 11, 12)], [(some (.inl (2147483648, 2147483648, 0, 0, 0)), [], [])])
set_option maxRecDepth 1000000 in
theorem sm_620_ok : sv_valid sg sm_620 := sv_main (S := []) (na := 2) (cut := []) (cs := []) (sp := []) (N := 1) sv_nv (by decide +kernel)
-- HungerDays$Reader.takeNumber(II)I (r2, 1, 60)
def sm_621 : sv_SM := (189, 3, 0, [.inr (some 2), .inl (2147483649, 2147483649, 0, 0, 0), .inl (2147483708, 2147483708, 0, 0, 0)], [], [(2, 4, 12)], [(some (.inl (2147483647, 2147483647, 0, 0, 0)), [], []), (some (.inl (0, 4294967295, 0, 0, 0)), [], [])])
set_option maxRecDepth 1000000 in
theorem sm_621_ok : sv_valid sg sm_621 := sv_main (S := [sm_608, sm_613, sm_605, sm_620]) (na := 3) (cut := []) (cs := []) (sp := []) (N := 1) (sv_cv sm_608_ok (sv_cv sm_613_ok (sv_cv sm_605_ok (sv_cv sm_620_ok sv_nv)))) (by decide +kernel)
-- HungerDays$Valley.numberOf(IJ)I (r4, 2, l)
def sm_622 : sv_SM := (232, 1, 0, [.inr (some 4), .inl (2147483650, 2147483650, 0, 0, 0), .inr none], [], [], [(some (.inl (2147483648, 2147483653, 0, 0, 0)), [], []), (some (.inl (2147483647, 2147483647, 0, 0, 0)), [], [])])
set_option maxRecDepth 1000000 in
theorem sm_622_ok : sv_valid sg sm_622 := sv_main (S := []) (na := 2) (cut := [61]) (cs := [(61, 1, 1, 13, [some (.inr (some 4)), some (.inl (2147483650, 2147483650, 0, 0, 0)), some (.inr none), none, some (.inr (some 7)), some (.inl (2147483648, 2147483654, 0, 0, 0)), some (.inl (2147483648, 2147483654, 0, 0, 0))], [], [])]) (sp := []) (N := 2) sv_nv (by decide +kernel)
-- HungerDays$Reader.lookNamed(LHungerDays$Valley;I)I (r2, r4, 2)
def sm_623 : sv_SM := (186, 2, 0, [.inr (some 2), .inr (some 4), .inl (2147483650, 2147483650, 0, 0, 0)], [], [(2, 11, 12)], [(some (.inl (2147483647, 2147483647, 0, 0, 0)), [], []), (some (.inl (2147483648, 2147483653, 0, 0, 0)), [], [])])
set_option maxRecDepth 1000000 in
theorem sm_623_ok : sv_valid sg sm_623 := sv_main (S := [sm_610, sm_608, sm_622, sm_612, sm_613]) (na := 3) (cut := []) (cs := []) (sp := []) (N := 1) (sv_cv sm_610_ok (sv_cv sm_608_ok (sv_cv sm_622_ok (sv_cv sm_612_ok (sv_cv sm_613_ok sv_nv))))) (by decide +kernel)
-- HungerDays$Reader.takeNamed(LHungerDays$Valley;I)I (r2, r4, 2)
def sm_624 : sv_SM := (188, 3, 0, [.inr (some 2), .inr (some 4), .inl (2147483650, 2147483650, 0, 0, 0)], [], [(2, 4, 12)], [(some (.inl (2147483648, 2147483653, 0, 0, 0)), [], []), (some (.inl (2147483647, 2147483647, 0, 0, 0)), [], [])])
set_option maxRecDepth 1000000 in
theorem sm_624_ok : sv_valid sg sm_624 := sv_main (S := [sm_623, sm_605]) (na := 3) (cut := []) (cs := []) (sp := []) (N := 1) (sv_cv sm_623_ok (sv_cv sm_605_ok sv_nv)) (by decide +kernel)
-- HungerDays$Book.readLine()Z (r116)
def sm_625 : sv_SM := (171, 5, 0, [.inr (some 116)], [(1900546, 2147483648, 2147483688, 0, 0)], [(2, 4, 12), (117, 0, 39), (118, 0, 39), (119, 0, 39)], [(some (.inl (2147483648, 2147483648, 0, 0, 0)), [], []), (some (.inl (2147483649, 2147483649, 0, 0, 0)), [], [(1900546, 2147483648, 2147483687, 0, 0)])])
set_option maxRecDepth 1000000 in
theorem sm_625_ok : sv_valid sg sm_625 := sv_main (S := [sm_614, sm_615, sm_605, sm_619, sm_621, sm_624]) (na := 1) (cut := []) (cs := []) (sp := []) (N := 1) (sv_cv sm_614_ok (sv_cv sm_615_ok (sv_cv sm_605_ok (sv_cv sm_619_ok (sv_cv sm_621_ok (sv_cv sm_624_ok sv_nv)))))) (by decide +kernel)
-- HungerDays$Reader.isSign(I)Z (r2, 59)
def sm_626 : sv_SM := (60, 1, 0, [.inr (some 2), .inl (2147483707, 2147483707, 0, 0, 0)], [], [], [(some (.inl (2147483649, 2147483649, 0, 0, 0)), [], []), (some (.inl (2147483648, 2147483648, 0, 0, 0)), [], [])])
set_option maxRecDepth 1000000 in
theorem sm_626_ok : sv_valid sg sm_626 := sv_main (S := []) (na := 2) (cut := []) (cs := []) (sp := []) (N := 1) sv_nv (by decide +kernel)
-- HungerDays$Reader.takeSign(I)Z (r2, 59)
def sm_627 : sv_SM := (190, 3, 0, [.inr (some 2), .inl (2147483707, 2147483707, 0, 0, 0)], [], [(2, 4, 12)], [(some (.inl (2147483648, 2147483648, 0, 0, 0)), [], []), (some (.inl (2147483649, 2147483649, 0, 0, 0)), [], [])])
set_option maxRecDepth 1000000 in
theorem sm_627_ok : sv_valid sg sm_627 := sv_main (S := [sm_626, sm_608, sm_605]) (na := 2) (cut := []) (cs := []) (sp := []) (N := 1) (sv_cv sm_626_ok (sv_cv sm_608_ok (sv_cv sm_605_ok sv_nv))) (by decide +kernel)
-- HungerDays$Book.readAll()Z (r116)
def sm_628 : sv_SM := (50, 6, 0, [.inr (some 116)], [(1900546, 2147483648, 2147483688, 0, 0)], [(2, 4, 12), (116, 2, 2), (117, 0, 39), (118, 0, 39), (119, 0, 39)], [(some (.inl (2147483649, 2147483649, 0, 0, 0)), [], []), (some (.inl (2147483648, 2147483648, 0, 0, 0)), [], [])])
set_option maxRecDepth 1000000 in
theorem sm_628_ok : sv_valid sg sm_628 := sv_main (S := [sm_609, sm_625, sm_627]) (na := 1) (cut := [7]) (cs := [(7, 1, 1, 3, [some (.inr (some 116)), some (.inl (2147483648, 2147483689, 0, 0, 0))], [], [(1900546, 2147483648, 2147483688, 0, 0)])]) (sp := []) (N := 2) (sv_cv sm_609_ok (sv_cv sm_625_ok (sv_cv sm_627_ok sv_nv))) (by decide +kernel)
-- HungerDays$State.dateOf(I)I (r33, [0,5])
def sm_629 : sv_SM := (201, 1, 0, [.inr (some 33), .inl (2147483648, 2147483653, 0, 0, 0)], [(65536, 0, 4294967295, 0, 0)], [], [(some (.inl (0, 4294967295, 0, 0, 0)), [], [])])
set_option maxRecDepth 1000000 in
theorem sm_629_ok : sv_valid sg sm_629 := sv_main (S := []) (na := 2) (cut := []) (cs := []) (sp := []) (N := 1) sv_nv (by decide +kernel)
-- HungerDays$State.isClash(I)Z (r33, 0)
def sm_630 : sv_SM := (204, 2, 0, [.inr (some 33), .inl (2147483648, 2147483648, 0, 0, 0)], [], [], [(some (.inl (2147483649, 2147483649, 0, 0, 0)), [], []), (some (.inl (2147483648, 2147483648, 0, 0, 0)), [], [])])
set_option maxRecDepth 1000000 in
theorem sm_630_ok : sv_valid sg sm_630 := sv_main (S := [sm_629]) (na := 2) (cut := []) (cs := []) (sp := []) (N := 1) (sv_cv sm_629_ok sv_nv) (by decide +kernel)
-- java/lang/Integer.bitCount(I)I (0)
def sm_631 : sv_SM := (152, 1, 0, [.inl (2147483648, 2147483648, 0, 0, 0)], [], [], [(some (.inl (2147483648, 2147483648, 0, 0, 0)), [], [])])
set_option maxRecDepth 1000000 in
theorem sm_631_ok : sv_valid sg sm_631 := sv_main (S := []) (na := 0) (cut := []) (cs := []) (sp := []) (N := 1) sv_nv (by decide +kernel)
-- HungerDays.howManyOrWhich(II)I (0, [MIN,MAX])
def sm_632 : sv_SM := (16, 2, 0, [.inl (2147483648, 2147483648, 0, 0, 0), .inl (0, 4294967295, 0, 0, 0)], [], [], [(some (.inl (2147483648, 2147483679, 0, 0, 0)), [], []), (some (.inl (2147483647, 2147483647, 0, 0, 0)), [], [])])
set_option maxRecDepth 1000000 in
theorem sm_632_ok : sv_valid sg sm_632 := sv_main (S := [sm_631]) (na := 2) (cut := [14]) (cs := [(14, 1, 1, 7, [some (.inl (2147483648, 2147483648, 0, 0, 0)), some (.inl (0, 4294967295, 0, 0, 0)), some (.inl (0, 4294967295, 0, 0, 0)), some (.inl (2147483648, 2147483680, 0, 0, 0))], [], [])]) (sp := []) (N := 2) (sv_cv sm_631_ok sv_nv) (by decide +kernel)
-- HungerDays$State.isClash(I)Z (r33, [0,1])
def sm_633 : sv_SM := (204, 2, 0, [.inr (some 33), .inl (2147483648, 2147483649, 0, 0, 0)], [], [], [(some (.inl (2147483649, 2147483649, 0, 0, 0)), [], []), (some (.inl (2147483648, 2147483648, 0, 0, 0)), [], [])])
set_option maxRecDepth 1000000 in
theorem sm_633_ok : sv_valid sg sm_633 := sv_main (S := [sm_629]) (na := 2) (cut := []) (cs := []) (sp := []) (N := 1) (sv_cv sm_629_ok sv_nv) (by decide +kernel)
-- java/lang/Integer.bitCount(I)I ([0,1])
def sm_634 : sv_SM := (152, 1, 0, [.inl (2147483648, 2147483649, 0, 0, 0)], [], [], [(some (.inl (2147483648, 2147483711, 0, 0, 0)), [], [])])
set_option maxRecDepth 1000000 in
theorem sm_634_ok : sv_valid sg sm_634 := sv_main (S := []) (na := 0) (cut := []) (cs := []) (sp := []) (N := 1) sv_nv (by decide +kernel)
-- HungerDays.howManyOrWhich(II)I ([0,1], [MIN,MAX])
def sm_635 : sv_SM := (16, 2, 0, [.inl (2147483648, 2147483649, 0, 0, 0), .inl (0, 4294967295, 0, 0, 0)], [], [], [(some (.inl (2147483648, 2147483711, 0, 0, 0)), [], []), (some (.inl (2147483647, 2147483647, 0, 0, 0)), [], [])])
set_option maxRecDepth 1000000 in
theorem sm_635_ok : sv_valid sg sm_635 := sv_main (S := [sm_634]) (na := 2) (cut := [14]) (cs := [(14, 1, 1, 7, [some (.inl (2147483648, 2147483649, 0, 0, 0)), some (.inl (0, 4294967295, 0, 0, 0)), some (.inl (0, 4294967295, 0, 0, 0)), some (.inl (2147483648, 2147483680, 0, 0, 0))], [], [])]) (sp := []) (N := 2) (sv_cv sm_634_ok sv_nv) (by decide +kernel)
-- HungerDays$State.isClash(I)Z (r33, [0,2])
def sm_636 : sv_SM := (204, 2, 0, [.inr (some 33), .inl (2147483648, 2147483650, 0, 0, 0)], [], [], [(some (.inl (2147483649, 2147483649, 0, 0, 0)), [], []), (some (.inl (2147483648, 2147483648, 0, 0, 0)), [], [])])
set_option maxRecDepth 1000000 in
theorem sm_636_ok : sv_valid sg sm_636 := sv_main (S := [sm_629]) (na := 2) (cut := []) (cs := []) (sp := []) (N := 1) (sv_cv sm_629_ok sv_nv) (by decide +kernel)
-- HungerDays.howManyOrWhich(II)I ([MIN,MAX], [MIN,MAX])
def sm_637 : sv_SM := (16, 2, 0, [.inl (0, 4294967295, 0, 0, 0), .inl (0, 4294967295, 0, 0, 0)], [], [], [(some (.inl (2147483648, 2147483711, 0, 0, 0)), [], []), (some (.inl (2147483647, 2147483647, 0, 0, 0)), [], [])])
set_option maxRecDepth 1000000 in
theorem sm_637_ok : sv_valid sg sm_637 := sv_main (S := [sm_600]) (na := 2) (cut := [14]) (cs := [(14, 1, 1, 7, [some (.inl (0, 4294967295, 0, 0, 0)), some (.inl (0, 4294967295, 0, 0, 0)), some (.inl (0, 4294967295, 0, 0, 0)), some (.inl (2147483648, 2147483680, 0, 0, 0))], [], [])]) (sp := []) (N := 2) (sv_cv sm_600_ok sv_nv) (by decide +kernel)
-- HungerDays$State.isClash(I)Z (r33, [0,3])
def sm_638 : sv_SM := (204, 2, 0, [.inr (some 33), .inl (2147483648, 2147483651, 0, 0, 0)], [], [], [(some (.inl (2147483649, 2147483649, 0, 0, 0)), [], []), (some (.inl (2147483648, 2147483648, 0, 0, 0)), [], [])])
set_option maxRecDepth 1000000 in
theorem sm_638_ok : sv_valid sg sm_638 := sv_main (S := [sm_629]) (na := 2) (cut := []) (cs := []) (sp := []) (N := 1) (sv_cv sm_629_ok sv_nv) (by decide +kernel)
-- HungerDays$State.isClash(I)Z (r33, [0,4])
def sm_639 : sv_SM := (204, 2, 0, [.inr (some 33), .inl (2147483648, 2147483652, 0, 0, 0)], [], [], [(some (.inl (2147483649, 2147483649, 0, 0, 0)), [], []), (some (.inl (2147483648, 2147483648, 0, 0, 0)), [], [])])
set_option maxRecDepth 1000000 in
theorem sm_639_ok : sv_valid sg sm_639 := sv_main (S := [sm_629]) (na := 2) (cut := []) (cs := []) (sp := []) (N := 1) (sv_cv sm_629_ok sv_nv) (by decide +kernel)
-- HungerDays$State.isClash(I)Z (r33, [0,5])
def sm_640 : sv_SM := (204, 2, 0, [.inr (some 33), .inl (2147483648, 2147483653, 0, 0, 0)], [], [], [(some (.inl (2147483649, 2147483649, 0, 0, 0)), [], []), (some (.inl (2147483648, 2147483648, 0, 0, 0)), [], [])])
set_option maxRecDepth 1000000 in
theorem sm_640_ok : sv_valid sg sm_640 := sv_main (S := [sm_629]) (na := 2) (cut := []) (cs := []) (sp := []) (N := 1) (sv_cv sm_629_ok sv_nv) (by decide +kernel)
-- HungerDays$State.isClash(I)Z (r33, [0,6])
def sm_641 : sv_SM := (204, 2, 0, [.inr (some 33), .inl (2147483648, 2147483654, 0, 0, 0)], [], [], [(some (.inl (2147483649, 2147483649, 0, 0, 0)), [], []), (some (.inl (2147483648, 2147483648, 0, 0, 0)), [], [])])
set_option maxRecDepth 1000000 in
theorem sm_641_ok : sv_valid sg sm_641 := sv_main (S := [sm_629]) (na := 2) (cut := []) (cs := []) (sp := []) (N := 1) (sv_cv sm_629_ok sv_nv) (by decide +kernel)
-- HungerDays$State.isClash(I)Z (r33, [0,7])
def sm_642 : sv_SM := (204, 2, 0, [.inr (some 33), .inl (2147483648, 2147483655, 0, 0, 0)], [], [], [(some (.inl (2147483649, 2147483649, 0, 0, 0)), [], []), (some (.inl (2147483648, 2147483648, 0, 0, 0)), [], [])])
set_option maxRecDepth 1000000 in
theorem sm_642_ok : sv_valid sg sm_642 := sv_main (S := [sm_629]) (na := 2) (cut := []) (cs := []) (sp := []) (N := 1) (sv_cv sm_629_ok sv_nv) (by decide +kernel)
-- HungerDays$State.isClash(I)Z (r33, [0,8])
def sm_643 : sv_SM := (204, 2, 0, [.inr (some 33), .inl (2147483648, 2147483656, 0, 0, 0)], [], [], [(some (.inl (2147483649, 2147483649, 0, 0, 0)), [], []), (some (.inl (2147483648, 2147483648, 0, 0, 0)), [], [])])
set_option maxRecDepth 1000000 in
theorem sm_643_ok : sv_valid sg sm_643 := sv_main (S := [sm_629]) (na := 2) (cut := []) (cs := []) (sp := []) (N := 1) (sv_cv sm_629_ok sv_nv) (by decide +kernel)
-- HungerDays$State.isClash(I)Z (r33, [0,9])
def sm_644 : sv_SM := (204, 2, 0, [.inr (some 33), .inl (2147483648, 2147483657, 0, 0, 0)], [], [], [(some (.inl (2147483649, 2147483649, 0, 0, 0)), [], []), (some (.inl (2147483648, 2147483648, 0, 0, 0)), [], [])])
set_option maxRecDepth 1000000 in
theorem sm_644_ok : sv_valid sg sm_644 := sv_main (S := [sm_629]) (na := 2) (cut := []) (cs := []) (sp := []) (N := 1) (sv_cv sm_629_ok sv_nv) (by decide +kernel)
-- HungerDays.clash(I)I (r0, [MIN,MAX])
def sm_645 : sv_SM := (5, 3, 0, [.inr (some 0), .inl (0, 4294967295, 0, 0, 0)], [], [], [(some (.inl (2147483647, 2147483647, 0, 0, 0)), [], []), (some (.inl (2147483648, 2147483711, 0, 0, 0)), [], [])])
set_option maxRecDepth 1000000 in
theorem sm_645_ok : sv_valid sg sm_645 := sv_main (S := [sm_644, sm_637]) (na := 2) (cut := [4]) (cs := [(4, 1, 1, 7, [some (.inr (some 0)), some (.inl (0, 4294967295, 0, 0, 0)), some (.inl (0, 4294967295, 0, 0, 0)), some (.inl (2147483648, 2147483658, 0, 0, 0))], [], [])]) (sp := []) (N := 2) (sv_cv sm_644_ok (sv_cv sm_637_ok sv_nv)) (by decide +kernel)
-- HungerDays$State.personsOf(I)I (r33, [MIN,MAX])
def sm_646 : sv_SM := (80, 2, 0, [.inr (some 33), .inl (0, 4294967295, 0, 0, 0)], [], [], [(some (.inl (0, 4294967295, 0, 0, 0)), [], [])])
set_option maxRecDepth 1000000 in
theorem sm_646_ok : sv_valid sg sm_646 := sv_main (S := [sm_629]) (na := 2) (cut := [4]) (cs := [(4, 1, 1, 7, [some (.inr (some 33)), some (.inl (0, 4294967295, 0, 0, 0)), some (.inl (0, 4294967295, 0, 0, 0)), some (.inl (2147483648, 2147483654, 0, 0, 0))], [], [])]) (sp := []) (N := 2) (sv_cv sm_629_ok sv_nv) (by decide +kernel)
-- HungerDays.common()I (r0)
def sm_647 : sv_SM := (6, 3, 0, [.inr (some 0)], [], [], [(some (.inl (0, 4294967295, 0, 0, 0)), [], [])])
set_option maxRecDepth 1000000 in
theorem sm_647_ok : sv_valid sg sm_647 := sv_main (S := [sm_629, sm_646, sm_600]) (na := 1) (cut := [6]) (cs := [(6, 1, 1, 7, [some (.inr (some 0)), some (.inl (0, 4294967295, 0, 0, 0)), some (.inl (2147483648, 2147483727, 0, 0, 0)), some (.inl (2147483648, 2147483654, 0, 0, 0)), none, none], [], [])]) (sp := []) (N := 2) (sv_cv sm_629_ok (sv_cv sm_646_ok (sv_cv sm_600_ok sv_nv))) (by decide +kernel)
-- HungerDays.count(I)I (r0, [MIN,MAX])
def sm_648 : sv_SM := (7, 1, 0, [.inr (some 0), .inl (0, 4294967295, 0, 0, 0)], [], [], [(some (.inl (0, 4294967295, 0, 0, 0)), [.inr (some 0), .inl (2147483648, 2147483653, 0, 0, 0)], []), (some (.inl (2147483647, 2147483647, 0, 0, 0)), [], [])])
set_option maxRecDepth 1000000 in
theorem sm_648_ok : sv_valid sg sm_648 := sv_main (S := []) (na := 2) (cut := []) (cs := []) (sp := []) (N := 1) sv_nv (by decide +kernel)
-- HungerDays$State.isOver()Z (r33)
def sm_649 : sv_SM := (76, 1, 0, [.inr (some 33)], [], [], [(some (.inl (2147483649, 2147483649, 0, 0, 0)), [], []), (some (.inl (2147483648, 2147483648, 0, 0, 0)), [], [])])
set_option maxRecDepth 1000000 in
theorem sm_649_ok : sv_valid sg sm_649 := sv_main (S := []) (na := 1) (cut := []) (cs := []) (sp := []) (N := 1) sv_nv (by decide +kernel)
-- HungerDays$Draws.draw(I)I (r120, 8)
def sm_650 : sv_SM := (172, 1, 0, [.inr (some 120), .inl (2147483656, 2147483656, 0, 0, 0)], [], [(120, 0, 0)], [(some (.inl (2147483648, 2147483655, 0, 0, 0)), [], [])])
set_option maxRecDepth 1000000 in
theorem sm_650_ok : sv_valid sg sm_650 := sv_main (S := []) (na := 2) (cut := []) (cs := []) (sp := []) (N := 1) sv_nv (by decide +kernel)
-- HungerDays$Draws.draw(I)I (r120, [0,4])
def sm_651 : sv_SM := (172, 1, 0, [.inr (some 120), .inl (2147483648, 2147483652, 0, 0, 0)], [], [(120, 0, 0)], [(some (.inl (2147483648, 2147483651, 0, 0, 0)), [], [])])
set_option maxRecDepth 1000000 in
theorem sm_651_ok : sv_valid sg sm_651 := sv_main (S := []) (na := 2) (cut := []) (cs := []) (sp := []) (N := 1) sv_nv (by decide +kernel)
-- HungerDays$State.isIll(I)Z (r33, 0)
def sm_652 : sv_SM := (207, 1, 0, [.inr (some 33), .inl (2147483648, 2147483648, 0, 0, 0)], [], [], [(some (.inl (2147483649, 2147483649, 0, 0, 0)), [], []), (some (.inl (2147483648, 2147483648, 0, 0, 0)), [], [])])
set_option maxRecDepth 1000000 in
theorem sm_652_ok : sv_valid sg sm_652 := sv_main (S := []) (na := 2) (cut := []) (cs := []) (sp := []) (N := 1) sv_nv (by decide +kernel)
-- HungerDays$State.whyNotEat(II)I (r33, 0, [0,3])
def sm_653 : sv_SM := (216, 2, 0, [.inr (some 33), .inl (2147483648, 2147483648, 0, 0, 0), .inl (2147483648, 2147483651, 0, 0, 0)], [], [], [(some (.inl (2147483648, 2147483651, 0, 0, 0)), [], [])])
set_option maxRecDepth 1000000 in
theorem sm_653_ok : sv_valid sg sm_653 := sv_main (S := [sm_652]) (na := 3) (cut := []) (cs := []) (sp := []) (N := 1) (sv_cv sm_652_ok sv_nv) (by decide +kernel)
-- HungerDays$State.takePortion(II)V (r33, 0, [0,3])
def sm_654 : sv_SM := (212, 1, 0, [.inr (some 33), .inl (2147483648, 2147483648, 0, 0, 0), .inl (2147483648, 2147483651, 0, 0, 0)], [], [(34, 0, 0), (36, 0, 0), (37, 0, 3)], [(none, [], [])])
set_option maxRecDepth 1000000 in
theorem sm_654_ok : sv_valid sg sm_654 := sv_main (S := []) (na := 3) (cut := []) (cs := []) (sp := []) (N := 1) sv_nv (by decide +kernel)
-- HungerDays$State.turnHealth(I)V (r33, 0)
def sm_655 : sv_SM := (213, 1, 0, [.inr (some 33), .inl (2147483648, 2147483648, 0, 0, 0)], [], [(33, 2, 2)], [(none, [], [])])
set_option maxRecDepth 1000000 in
theorem sm_655_ok : sv_valid sg sm_655 := sv_main (S := []) (na := 2) (cut := []) (cs := []) (sp := []) (N := 1) sv_nv (by decide +kernel)
-- HungerDays$State.isIll(I)Z (r33, [0,1])
def sm_656 : sv_SM := (207, 1, 0, [.inr (some 33), .inl (2147483648, 2147483649, 0, 0, 0)], [], [], [(some (.inl (2147483649, 2147483649, 0, 0, 0)), [], []), (some (.inl (2147483648, 2147483648, 0, 0, 0)), [], [])])
set_option maxRecDepth 1000000 in
theorem sm_656_ok : sv_valid sg sm_656 := sv_main (S := []) (na := 2) (cut := []) (cs := []) (sp := []) (N := 1) sv_nv (by decide +kernel)
-- HungerDays$State.whyNotEat(II)I (r33, [0,1], [0,3])
def sm_657 : sv_SM := (216, 2, 0, [.inr (some 33), .inl (2147483648, 2147483649, 0, 0, 0), .inl (2147483648, 2147483651, 0, 0, 0)], [], [], [(some (.inl (2147483648, 2147483651, 0, 0, 0)), [], [])])
set_option maxRecDepth 1000000 in
theorem sm_657_ok : sv_valid sg sm_657 := sv_main (S := [sm_656]) (na := 3) (cut := []) (cs := []) (sp := []) (N := 1) (sv_cv sm_656_ok sv_nv) (by decide +kernel)
-- HungerDays$State.takePortion(II)V (r33, [0,1], [0,3])
def sm_658 : sv_SM := (212, 1, 0, [.inr (some 33), .inl (2147483648, 2147483649, 0, 0, 0), .inl (2147483648, 2147483651, 0, 0, 0)], [], [(34, 0, 1), (36, 0, 1), (37, 0, 3)], [(none, [], [])])
set_option maxRecDepth 1000000 in
theorem sm_658_ok : sv_valid sg sm_658 := sv_main (S := []) (na := 3) (cut := []) (cs := []) (sp := []) (N := 1) sv_nv (by decide +kernel)
-- HungerDays$State.turnHealth(I)V (r33, [0,1])
def sm_659 : sv_SM := (213, 1, 0, [.inr (some 33), .inl (2147483648, 2147483649, 0, 0, 0)], [], [(33, 2, 2)], [(none, [], [])])
set_option maxRecDepth 1000000 in
theorem sm_659_ok : sv_valid sg sm_659 := sv_main (S := []) (na := 2) (cut := []) (cs := []) (sp := []) (N := 1) sv_nv (by decide +kernel)
-- HungerDays$State.isIll(I)Z (r33, [0,2])
def sm_660 : sv_SM := (207, 1, 0, [.inr (some 33), .inl (2147483648, 2147483650, 0, 0, 0)], [], [], [(some (.inl (2147483649, 2147483649, 0, 0, 0)), [], []), (some (.inl (2147483648, 2147483648, 0, 0, 0)), [], [])])
set_option maxRecDepth 1000000 in
theorem sm_660_ok : sv_valid sg sm_660 := sv_main (S := []) (na := 2) (cut := []) (cs := []) (sp := []) (N := 1) sv_nv (by decide +kernel)
-- HungerDays$State.whyNotEat(II)I (r33, [0,2], [0,3])
def sm_661 : sv_SM := (216, 2, 0, [.inr (some 33), .inl (2147483648, 2147483650, 0, 0, 0), .inl (2147483648, 2147483651, 0, 0, 0)], [], [], [(some (.inl (2147483648, 2147483651, 0, 0, 0)), [], [])])
set_option maxRecDepth 1000000 in
theorem sm_661_ok : sv_valid sg sm_661 := sv_main (S := [sm_660]) (na := 3) (cut := []) (cs := []) (sp := []) (N := 1) (sv_cv sm_660_ok sv_nv) (by decide +kernel)
-- HungerDays$State.takePortion(II)V (r33, [0,2], [0,3])
def sm_662 : sv_SM := (212, 1, 0, [.inr (some 33), .inl (2147483648, 2147483650, 0, 0, 0), .inl (2147483648, 2147483651, 0, 0, 0)], [], [(34, 0, 2), (36, 0, 2), (37, 0, 3)], [(none, [], [])])
set_option maxRecDepth 1000000 in
theorem sm_662_ok : sv_valid sg sm_662 := sv_main (S := []) (na := 3) (cut := []) (cs := []) (sp := []) (N := 1) sv_nv (by decide +kernel)
-- HungerDays$State.turnHealth(I)V (r33, [0,2])
def sm_663 : sv_SM := (213, 1, 0, [.inr (some 33), .inl (2147483648, 2147483650, 0, 0, 0)], [], [(33, 2, 2)], [(none, [], [])])
set_option maxRecDepth 1000000 in
theorem sm_663_ok : sv_valid sg sm_663 := sv_main (S := []) (na := 2) (cut := []) (cs := []) (sp := []) (N := 1) sv_nv (by decide +kernel)
-- HungerDays$State.isIll(I)Z (r33, [0,3])
def sm_664 : sv_SM := (207, 1, 0, [.inr (some 33), .inl (2147483648, 2147483651, 0, 0, 0)], [], [], [(some (.inl (2147483649, 2147483649, 0, 0, 0)), [], []), (some (.inl (2147483648, 2147483648, 0, 0, 0)), [], [])])
set_option maxRecDepth 1000000 in
theorem sm_664_ok : sv_valid sg sm_664 := sv_main (S := []) (na := 2) (cut := []) (cs := []) (sp := []) (N := 1) sv_nv (by decide +kernel)
-- HungerDays$State.whyNotEat(II)I (r33, [0,3], [0,3])
def sm_665 : sv_SM := (216, 2, 0, [.inr (some 33), .inl (2147483648, 2147483651, 0, 0, 0), .inl (2147483648, 2147483651, 0, 0, 0)], [], [], [(some (.inl (2147483648, 2147483651, 0, 0, 0)), [], [])])
set_option maxRecDepth 1000000 in
theorem sm_665_ok : sv_valid sg sm_665 := sv_main (S := [sm_664]) (na := 3) (cut := []) (cs := []) (sp := []) (N := 1) (sv_cv sm_664_ok sv_nv) (by decide +kernel)
-- HungerDays$State.takePortion(II)V (r33, [0,3], [0,3])
def sm_666 : sv_SM := (212, 1, 0, [.inr (some 33), .inl (2147483648, 2147483651, 0, 0, 0), .inl (2147483648, 2147483651, 0, 0, 0)], [], [(34, 0, 3), (36, 0, 3), (37, 0, 3)], [(none, [], [])])
set_option maxRecDepth 1000000 in
theorem sm_666_ok : sv_valid sg sm_666 := sv_main (S := []) (na := 3) (cut := []) (cs := []) (sp := []) (N := 1) sv_nv (by decide +kernel)
-- HungerDays$State.turnHealth(I)V (r33, [0,3])
def sm_667 : sv_SM := (213, 1, 0, [.inr (some 33), .inl (2147483648, 2147483651, 0, 0, 0)], [], [(33, 2, 2)], [(none, [], [])])
set_option maxRecDepth 1000000 in
theorem sm_667_ok : sv_valid sg sm_667 := sv_main (S := []) (na := 2) (cut := []) (cs := []) (sp := []) (N := 1) sv_nv (by decide +kernel)
-- HungerDays$State.isIll(I)Z (r33, [0,4])
def sm_668 : sv_SM := (207, 1, 0, [.inr (some 33), .inl (2147483648, 2147483652, 0, 0, 0)], [], [], [(some (.inl (2147483649, 2147483649, 0, 0, 0)), [], []), (some (.inl (2147483648, 2147483648, 0, 0, 0)), [], [])])
set_option maxRecDepth 1000000 in
theorem sm_668_ok : sv_valid sg sm_668 := sv_main (S := []) (na := 2) (cut := []) (cs := []) (sp := []) (N := 1) sv_nv (by decide +kernel)
-- HungerDays$State.whyNotEat(II)I (r33, [0,4], [0,3])
def sm_669 : sv_SM := (216, 2, 0, [.inr (some 33), .inl (2147483648, 2147483652, 0, 0, 0), .inl (2147483648, 2147483651, 0, 0, 0)], [], [], [(some (.inl (2147483648, 2147483651, 0, 0, 0)), [], [])])
set_option maxRecDepth 1000000 in
theorem sm_669_ok : sv_valid sg sm_669 := sv_main (S := [sm_668]) (na := 3) (cut := []) (cs := []) (sp := []) (N := 1) (sv_cv sm_668_ok sv_nv) (by decide +kernel)
-- HungerDays$State.takePortion(II)V (r33, [0,4], [0,3])
def sm_670 : sv_SM := (212, 1, 0, [.inr (some 33), .inl (2147483648, 2147483652, 0, 0, 0), .inl (2147483648, 2147483651, 0, 0, 0)], [], [(34, 0, 4), (36, 0, 4), (37, 0, 3)], [(none, [], [])])
set_option maxRecDepth 1000000 in
theorem sm_670_ok : sv_valid sg sm_670 := sv_main (S := []) (na := 3) (cut := []) (cs := []) (sp := []) (N := 1) sv_nv (by decide +kernel)
-- HungerDays$State.turnHealth(I)V (r33, [0,4])
def sm_671 : sv_SM := (213, 1, 0, [.inr (some 33), .inl (2147483648, 2147483652, 0, 0, 0)], [], [(33, 2, 2)], [(none, [], [])])
set_option maxRecDepth 1000000 in
theorem sm_671_ok : sv_valid sg sm_671 := sv_main (S := []) (na := 2) (cut := []) (cs := []) (sp := []) (N := 1) sv_nv (by decide +kernel)
-- HungerDays$State.whyNotEat(II)I (r33, [0,5], [0,3])
def sm_672 : sv_SM := (216, 2, 0, [.inr (some 33), .inl (2147483648, 2147483653, 0, 0, 0), .inl (2147483648, 2147483651, 0, 0, 0)], [], [], [(some (.inl (2147483648, 2147483651, 0, 0, 0)), [], [])])
set_option maxRecDepth 1000000 in
theorem sm_672_ok : sv_valid sg sm_672 := sv_main (S := [sm_580]) (na := 3) (cut := []) (cs := []) (sp := []) (N := 1) (sv_cv sm_580_ok sv_nv) (by decide +kernel)
-- HungerDays$State.takePortion(II)V (r33, [0,5], [0,3])
def sm_673 : sv_SM := (212, 1, 0, [.inr (some 33), .inl (2147483648, 2147483653, 0, 0, 0), .inl (2147483648, 2147483651, 0, 0, 0)], [], [(34, 0, 5), (36, 0, 5), (37, 0, 3)], [(none, [], [])])
set_option maxRecDepth 1000000 in
theorem sm_673_ok : sv_valid sg sm_673 := sv_main (S := []) (na := 3) (cut := []) (cs := []) (sp := []) (N := 1) sv_nv (by decide +kernel)
-- HungerDays$Draws.drawPersons(LHungerDays$State;)V (r120, r33)
def sm_674 : sv_SM := (173, 3, 0, [.inr (some 120), .inr (some 33)], [], [(33, 2, 2), (34, 0, 5), (36, 0, 5), (37, 0, 3), (120, 0, 0)], [(none, [], [])])
set_option maxRecDepth 1000000 in
theorem sm_674_ok : sv_valid sg sm_674 := sv_main (S := [sm_650, sm_651, sm_672, sm_673, sm_591]) (na := 2) (cut := [2]) (cs := [(2, 1, 1, 5, [some (.inr (some 120)), some (.inr (some 33)), some (.inl (2147483648, 2147483654, 0, 0, 0)), none, none], [], [])]) (sp := []) (N := 2) (sv_cv sm_650_ok (sv_cv sm_651_ok (sv_cv sm_672_ok (sv_cv sm_673_ok (sv_cv sm_591_ok sv_nv))))) (by decide +kernel)
-- HungerDays$State.isDateOfEarlier(II)Z (r33, [MIN,MAX], 0)
def sm_675 : sv_SM := (205, 1, 0, [.inr (some 33), .inl (0, 4294967295, 0, 0, 0), .inl (2147483648, 2147483648, 0, 0, 0)], [], [], [(some (.inl (2147483648, 2147483648, 0, 0, 0)), [], [])])
set_option maxRecDepth 1000000 in
theorem sm_675_ok : sv_valid sg sm_675 := sv_main (S := []) (na := 3) (cut := [2]) (cs := [(2, 1, 1, 0, [some (.inr (some 33)), some (.inl (0, 4294967295, 0, 0, 0)), some (.inl (2147483648, 2147483648, 0, 0, 0)), some (.inl (2147483648, 2147483648, 0, 0, 0))], [], [])]) (sp := []) (N := 2) sv_nv (by decide +kernel)
-- HungerDays$State.isDateOfEarlier(II)Z (r33, [MIN,MAX], [0,1])
def sm_676 : sv_SM := (205, 2, 0, [.inr (some 33), .inl (0, 4294967295, 0, 0, 0), .inl (2147483648, 2147483649, 0, 0, 0)], [], [], [(some (.inl (2147483649, 2147483649, 0, 0, 0)), [.inr (some 33), .inl (0, 4294967295, 0, 0, 0), .inl (2147483649, 2147483649, 0, 0, 0)], []), (some (.inl (2147483648, 2147483648, 0, 0, 0)), [], [])])
set_option maxRecDepth 1000000 in
theorem sm_676_ok : sv_valid sg sm_676 := sv_main (S := [sm_629]) (na := 3) (cut := [2]) (cs := [(2, 1, 1, 7, [some (.inr (some 33)), some (.inl (0, 4294967295, 0, 0, 0)), some (.inl (2147483648, 2147483649, 0, 0, 0)), some (.inl (2147483648, 2147483649, 0, 0, 0))], [], [])]) (sp := []) (N := 2) (sv_cv sm_629_ok sv_nv) (by decide +kernel)
-- HungerDays$State.isDateOfEarlier(II)Z (r33, [MIN,MAX], [0,2])
def sm_677 : sv_SM := (205, 2, 0, [.inr (some 33), .inl (0, 4294967295, 0, 0, 0), .inl (2147483648, 2147483650, 0, 0, 0)], [], [], [(some (.inl (2147483649, 2147483649, 0, 0, 0)), [.inr (some 33), .inl (0, 4294967295, 0, 0, 0), .inl (2147483649, 2147483650, 0, 0, 0)], []), (some (.inl (2147483648, 2147483648, 0, 0, 0)), [], [])])
set_option maxRecDepth 1000000 in
theorem sm_677_ok : sv_valid sg sm_677 := sv_main (S := [sm_629]) (na := 3) (cut := [2]) (cs := [(2, 1, 1, 7, [some (.inr (some 33)), some (.inl (0, 4294967295, 0, 0, 0)), some (.inl (2147483648, 2147483650, 0, 0, 0)), some (.inl (2147483648, 2147483650, 0, 0, 0))], [], [])]) (sp := []) (N := 2) (sv_cv sm_629_ok sv_nv) (by decide +kernel)
-- HungerDays$State.isDateOfEarlier(II)Z (r33, [MIN,MAX], [0,3])
def sm_678 : sv_SM := (205, 2, 0, [.inr (some 33), .inl (0, 4294967295, 0, 0, 0), .inl (2147483648, 2147483651, 0, 0, 0)], [], [], [(some (.inl (2147483649, 2147483649, 0, 0, 0)), [.inr (some 33), .inl (0, 4294967295, 0, 0, 0), .inl (2147483649, 2147483651, 0, 0, 0)], []), (some (.inl (2147483648, 2147483648, 0, 0, 0)), [], [])])
set_option maxRecDepth 1000000 in
theorem sm_678_ok : sv_valid sg sm_678 := sv_main (S := [sm_629]) (na := 3) (cut := [2]) (cs := [(2, 1, 1, 7, [some (.inr (some 33)), some (.inl (0, 4294967295, 0, 0, 0)), some (.inl (2147483648, 2147483651, 0, 0, 0)), some (.inl (2147483648, 2147483651, 0, 0, 0))], [], [])]) (sp := []) (N := 2) (sv_cv sm_629_ok sv_nv) (by decide +kernel)
-- HungerDays$State.isDateOfEarlier(II)Z (r33, [MIN,MAX], [0,4])
def sm_679 : sv_SM := (205, 2, 0, [.inr (some 33), .inl (0, 4294967295, 0, 0, 0), .inl (2147483648, 2147483652, 0, 0, 0)], [], [], [(some (.inl (2147483649, 2147483649, 0, 0, 0)), [.inr (some 33), .inl (0, 4294967295, 0, 0, 0), .inl (2147483649, 2147483652, 0, 0, 0)], []), (some (.inl (2147483648, 2147483648, 0, 0, 0)), [], [])])
set_option maxRecDepth 1000000 in
theorem sm_679_ok : sv_valid sg sm_679 := sv_main (S := [sm_629]) (na := 3) (cut := [2]) (cs := [(2, 1, 1, 7, [some (.inr (some 33)), some (.inl (0, 4294967295, 0, 0, 0)), some (.inl (2147483648, 2147483652, 0, 0, 0)), some (.inl (2147483648, 2147483652, 0, 0, 0))], [], [])]) (sp := []) (N := 2) (sv_cv sm_629_ok sv_nv) (by decide +kernel)
-- HungerDays$State.isDateOfEarlier(II)Z (r33, [MIN,MAX], [0,5])
def sm_680 : sv_SM := (205, 2, 0, [.inr (some 33), .inl (0, 4294967295, 0, 0, 0), .inl (2147483648, 2147483653, 0, 0, 0)], [], [], [(some (.inl (2147483649, 2147483649, 0, 0, 0)), [.inr (some 33), .inl (0, 4294967295, 0, 0, 0), .inl (2147483649, 2147483653, 0, 0, 0)], []), (some (.inl (2147483648, 2147483648, 0, 0, 0)), [], [])])
set_option maxRecDepth 1000000 in
theorem sm_680_ok : sv_valid sg sm_680 := sv_main (S := [sm_629]) (na := 3) (cut := [2]) (cs := [(2, 1, 1, 7, [some (.inr (some 33)), some (.inl (0, 4294967295, 0, 0, 0)), some (.inl (2147483648, 2147483653, 0, 0, 0)), some (.inl (2147483648, 2147483653, 0, 0, 0))], [], [])]) (sp := []) (N := 2) (sv_cv sm_629_ok sv_nv) (by decide +kernel)
-- HungerDays$State.unlikeDates(I)I (r33, [MIN,MAX])
def sm_681 : sv_SM := (214, 3, 0, [.inr (some 33), .inl (0, 4294967295, 0, 0, 0)], [], [], [(some (.inl (0, 4294967295, 0, 0, 0)), [], [])])
set_option maxRecDepth 1000000 in
theorem sm_681_ok : sv_valid sg sm_681 := sv_main (S := [sm_680]) (na := 2) (cut := [4]) (cs := [(4, 1, 1, 7, [some (.inr (some 33)), some (.inl (0, 4294967295, 0, 0, 0)), some (.inl (0, 4294967295, 0, 0, 0)), some (.inl (2147483648, 2147483654, 0, 0, 0))], [], [])]) (sp := []) (N := 2) (sv_cv sm_680_ok sv_nv) (by decide +kernel)
-- HungerDays$State.whyNotMeet(I)I (r33, 0)
def sm_682 : sv_SM := (217, 4, 0, [.inr (some 33), .inl (2147483648, 2147483648, 0, 0, 0)], [], [], [(some (.inl (2147483648, 2147483651, 0, 0, 0)), [], [])])
set_option maxRecDepth 1000000 in
theorem sm_682_ok : sv_valid sg sm_682 := sv_main (S := [sm_681]) (na := 2) (cut := []) (cs := []) (sp := []) (N := 1) (sv_cv sm_681_ok sv_nv) (by decide +kernel)
-- HungerDays$State.hold(I)V (r33, 0)
def sm_683 : sv_SM := (203, 1, 0, [.inr (some 33), .inl (2147483648, 2147483648, 0, 0, 0)], [], [(38, 0, 0)], [(none, [], [])])
set_option maxRecDepth 1000000 in
theorem sm_683_ok : sv_valid sg sm_683 := sv_main (S := []) (na := 2) (cut := []) (cs := []) (sp := []) (N := 1) sv_nv (by decide +kernel)
-- HungerDays$State.whyNotMeet(I)I (r33, [0,1])
def sm_684 : sv_SM := (217, 4, 0, [.inr (some 33), .inl (2147483648, 2147483649, 0, 0, 0)], [], [], [(some (.inl (2147483648, 2147483651, 0, 0, 0)), [], [])])
set_option maxRecDepth 1000000 in
theorem sm_684_ok : sv_valid sg sm_684 := sv_main (S := [sm_681]) (na := 2) (cut := []) (cs := []) (sp := []) (N := 1) (sv_cv sm_681_ok sv_nv) (by decide +kernel)
-- HungerDays$State.hold(I)V (r33, [0,1])
def sm_685 : sv_SM := (203, 1, 0, [.inr (some 33), .inl (2147483648, 2147483649, 0, 0, 0)], [], [(38, 0, 1)], [(none, [], [])])
set_option maxRecDepth 1000000 in
theorem sm_685_ok : sv_valid sg sm_685 := sv_main (S := []) (na := 2) (cut := []) (cs := []) (sp := []) (N := 1) sv_nv (by decide +kernel)
-- HungerDays$State.whyNotMeet(I)I (r33, [0,2])
def sm_686 : sv_SM := (217, 4, 0, [.inr (some 33), .inl (2147483648, 2147483650, 0, 0, 0)], [], [], [(some (.inl (2147483648, 2147483651, 0, 0, 0)), [], [])])
set_option maxRecDepth 1000000 in
theorem sm_686_ok : sv_valid sg sm_686 := sv_main (S := [sm_681]) (na := 2) (cut := []) (cs := []) (sp := []) (N := 1) (sv_cv sm_681_ok sv_nv) (by decide +kernel)
-- HungerDays$State.hold(I)V (r33, [0,2])
def sm_687 : sv_SM := (203, 1, 0, [.inr (some 33), .inl (2147483648, 2147483650, 0, 0, 0)], [], [(38, 0, 2)], [(none, [], [])])
set_option maxRecDepth 1000000 in
theorem sm_687_ok : sv_valid sg sm_687 := sv_main (S := []) (na := 2) (cut := []) (cs := []) (sp := []) (N := 1) sv_nv (by decide +kernel)
-- HungerDays$State.whyNotMeet(I)I (r33, [0,3])
def sm_688 : sv_SM := (217, 4, 0, [.inr (some 33), .inl (2147483648, 2147483651, 0, 0, 0)], [], [], [(some (.inl (2147483648, 2147483651, 0, 0, 0)), [], [])])
set_option maxRecDepth 1000000 in
theorem sm_688_ok : sv_valid sg sm_688 := sv_main (S := [sm_681]) (na := 2) (cut := []) (cs := []) (sp := []) (N := 1) (sv_cv sm_681_ok sv_nv) (by decide +kernel)
-- HungerDays$State.hold(I)V (r33, [0,3])
def sm_689 : sv_SM := (203, 1, 0, [.inr (some 33), .inl (2147483648, 2147483651, 0, 0, 0)], [], [(38, 0, 3)], [(none, [], [])])
set_option maxRecDepth 1000000 in
theorem sm_689_ok : sv_valid sg sm_689 := sv_main (S := []) (na := 2) (cut := []) (cs := []) (sp := []) (N := 1) sv_nv (by decide +kernel)
-- HungerDays$State.whyNotMeet(I)I (r33, [0,4])
def sm_690 : sv_SM := (217, 4, 0, [.inr (some 33), .inl (2147483648, 2147483652, 0, 0, 0)], [], [], [(some (.inl (2147483648, 2147483651, 0, 0, 0)), [], [])])
set_option maxRecDepth 1000000 in
theorem sm_690_ok : sv_valid sg sm_690 := sv_main (S := [sm_681]) (na := 2) (cut := []) (cs := []) (sp := []) (N := 1) (sv_cv sm_681_ok sv_nv) (by decide +kernel)
-- HungerDays$State.hold(I)V (r33, [0,4])
def sm_691 : sv_SM := (203, 1, 0, [.inr (some 33), .inl (2147483648, 2147483652, 0, 0, 0)], [], [(38, 0, 4)], [(none, [], [])])
set_option maxRecDepth 1000000 in
theorem sm_691_ok : sv_valid sg sm_691 := sv_main (S := []) (na := 2) (cut := []) (cs := []) (sp := []) (N := 1) sv_nv (by decide +kernel)
-- HungerDays$State.whyNotMeet(I)I (r33, [0,5])
def sm_692 : sv_SM := (217, 4, 0, [.inr (some 33), .inl (2147483648, 2147483653, 0, 0, 0)], [], [], [(some (.inl (2147483648, 2147483651, 0, 0, 0)), [], [])])
set_option maxRecDepth 1000000 in
theorem sm_692_ok : sv_valid sg sm_692 := sv_main (S := [sm_681]) (na := 2) (cut := []) (cs := []) (sp := []) (N := 1) (sv_cv sm_681_ok sv_nv) (by decide +kernel)
-- HungerDays$State.hold(I)V (r33, [0,5])
def sm_693 : sv_SM := (203, 1, 0, [.inr (some 33), .inl (2147483648, 2147483653, 0, 0, 0)], [], [(38, 0, 5)], [(none, [], [])])
set_option maxRecDepth 1000000 in
theorem sm_693_ok : sv_valid sg sm_693 := sv_main (S := []) (na := 2) (cut := []) (cs := []) (sp := []) (N := 1) sv_nv (by decide +kernel)
-- HungerDays$Draws.holdMeetings(LHungerDays$State;)V (r33)
def sm_694 : sv_SM := (174, 5, 0, [.inr (some 33)], [], [(38, 0, 5)], [(none, [], [])])
set_option maxRecDepth 1000000 in
theorem sm_694_ok : sv_valid sg sm_694 := sv_main (S := [sm_692, sm_693]) (na := 1) (cut := [2]) (cs := [(2, 1, 1, 3, [some (.inr (some 33)), some (.inl (2147483648, 2147483654, 0, 0, 0))], [], [])]) (sp := []) (N := 2) (sv_cv sm_692_ok (sv_cv sm_693_ok sv_nv)) (by decide +kernel)
-- HungerDays$Valley.isWinter(I)Z (r4, [MIN,MAX])
def sm_695 : sv_SM := (86, 1, 0, [.inr (some 4), .inl (0, 4294967295, 0, 0, 0)], [], [], [(some (.inl (2147483649, 2147483649, 0, 0, 0)), [.inr (some 4), .inl (0, 4294967294, 0, 0, 0)], []), (some (.inl (2147483648, 2147483648, 0, 0, 0)), [], [])])
set_option maxRecDepth 1000000 in
theorem sm_695_ok : sv_valid sg sm_695 := sv_main (S := []) (na := 2) (cut := []) (cs := []) (sp := []) (N := 1) sv_nv (by decide +kernel)
-- HungerDays$State.isDue(I)Z (r33, 0)
def sm_696 : sv_SM := (206, 2, 0, [.inr (some 33), .inl (2147483648, 2147483648, 0, 0, 0)], [], [], [(some (.inl (2147483649, 2147483649, 0, 0, 0)), [], []), (some (.inl (2147483648, 2147483648, 0, 0, 0)), [], [])])
set_option maxRecDepth 1000000 in
theorem sm_696_ok : sv_valid sg sm_696 := sv_main (S := [sm_580, sm_629]) (na := 2) (cut := []) (cs := []) (sp := []) (N := 1) (sv_cv sm_580_ok (sv_cv sm_629_ok sv_nv)) (by decide +kernel)
-- HungerDays$State.pays(I)Z (r33, 0)
def sm_697 : sv_SM := (211, 1, 0, [.inr (some 33), .inl (2147483648, 2147483648, 0, 0, 0)], [], [(35, 0, 5), (39, 0, 0)], [(some (.inl (2147483648, 2147483648, 0, 0, 0)), [], []), (some (.inl (2147483649, 2147483649, 0, 0, 0)), [], [])])
set_option maxRecDepth 1000000 in
theorem sm_697_ok : sv_valid sg sm_697 := sv_main (S := []) (na := 2) (cut := []) (cs := []) (sp := []) (N := 1) sv_nv (by decide +kernel)
-- HungerDays$State.isDue(I)Z (r33, [0,1])
def sm_698 : sv_SM := (206, 2, 0, [.inr (some 33), .inl (2147483648, 2147483649, 0, 0, 0)], [], [], [(some (.inl (2147483649, 2147483649, 0, 0, 0)), [], []), (some (.inl (2147483648, 2147483648, 0, 0, 0)), [], [])])
set_option maxRecDepth 1000000 in
theorem sm_698_ok : sv_valid sg sm_698 := sv_main (S := [sm_580, sm_629]) (na := 2) (cut := []) (cs := []) (sp := []) (N := 1) (sv_cv sm_580_ok (sv_cv sm_629_ok sv_nv)) (by decide +kernel)
-- HungerDays$State.pays(I)Z (r33, [0,1])
def sm_699 : sv_SM := (211, 1, 0, [.inr (some 33), .inl (2147483648, 2147483649, 0, 0, 0)], [], [(35, 0, 5), (39, 0, 1)], [(some (.inl (2147483648, 2147483648, 0, 0, 0)), [], []), (some (.inl (2147483649, 2147483649, 0, 0, 0)), [], [])])
set_option maxRecDepth 1000000 in
theorem sm_699_ok : sv_valid sg sm_699 := sv_main (S := []) (na := 2) (cut := []) (cs := []) (sp := []) (N := 1) sv_nv (by decide +kernel)
-- HungerDays$State.isDue(I)Z (r33, [0,2])
def sm_700 : sv_SM := (206, 2, 0, [.inr (some 33), .inl (2147483648, 2147483650, 0, 0, 0)], [], [], [(some (.inl (2147483649, 2147483649, 0, 0, 0)), [], []), (some (.inl (2147483648, 2147483648, 0, 0, 0)), [], [])])
set_option maxRecDepth 1000000 in
theorem sm_700_ok : sv_valid sg sm_700 := sv_main (S := [sm_580, sm_629]) (na := 2) (cut := []) (cs := []) (sp := []) (N := 1) (sv_cv sm_580_ok (sv_cv sm_629_ok sv_nv)) (by decide +kernel)
-- HungerDays$State.pays(I)Z (r33, [0,2])
def sm_701 : sv_SM := (211, 1, 0, [.inr (some 33), .inl (2147483648, 2147483650, 0, 0, 0)], [], [(35, 0, 5), (39, 0, 2)], [(some (.inl (2147483648, 2147483648, 0, 0, 0)), [], []), (some (.inl (2147483649, 2147483649, 0, 0, 0)), [], [])])
set_option maxRecDepth 1000000 in
theorem sm_701_ok : sv_valid sg sm_701 := sv_main (S := []) (na := 2) (cut := []) (cs := []) (sp := []) (N := 1) sv_nv (by decide +kernel)
-- HungerDays$State.isDue(I)Z (r33, [0,3])
def sm_702 : sv_SM := (206, 2, 0, [.inr (some 33), .inl (2147483648, 2147483651, 0, 0, 0)], [], [], [(some (.inl (2147483649, 2147483649, 0, 0, 0)), [], []), (some (.inl (2147483648, 2147483648, 0, 0, 0)), [], [])])
set_option maxRecDepth 1000000 in
theorem sm_702_ok : sv_valid sg sm_702 := sv_main (S := [sm_580, sm_629]) (na := 2) (cut := []) (cs := []) (sp := []) (N := 1) (sv_cv sm_580_ok (sv_cv sm_629_ok sv_nv)) (by decide +kernel)
-- HungerDays$State.pays(I)Z (r33, [0,3])
def sm_703 : sv_SM := (211, 1, 0, [.inr (some 33), .inl (2147483648, 2147483651, 0, 0, 0)], [], [(35, 0, 5), (39, 0, 3)], [(some (.inl (2147483648, 2147483648, 0, 0, 0)), [], []), (some (.inl (2147483649, 2147483649, 0, 0, 0)), [], [])])
set_option maxRecDepth 1000000 in
theorem sm_703_ok : sv_valid sg sm_703 := sv_main (S := []) (na := 2) (cut := []) (cs := []) (sp := []) (N := 1) sv_nv (by decide +kernel)
-- HungerDays$State.isDue(I)Z (r33, [0,4])
def sm_704 : sv_SM := (206, 2, 0, [.inr (some 33), .inl (2147483648, 2147483652, 0, 0, 0)], [], [], [(some (.inl (2147483649, 2147483649, 0, 0, 0)), [], []), (some (.inl (2147483648, 2147483648, 0, 0, 0)), [], [])])
set_option maxRecDepth 1000000 in
theorem sm_704_ok : sv_valid sg sm_704 := sv_main (S := [sm_580, sm_629]) (na := 2) (cut := []) (cs := []) (sp := []) (N := 1) (sv_cv sm_580_ok (sv_cv sm_629_ok sv_nv)) (by decide +kernel)
-- HungerDays$State.pays(I)Z (r33, [0,4])
def sm_705 : sv_SM := (211, 1, 0, [.inr (some 33), .inl (2147483648, 2147483652, 0, 0, 0)], [], [(35, 0, 5), (39, 0, 4)], [(some (.inl (2147483648, 2147483648, 0, 0, 0)), [], []), (some (.inl (2147483649, 2147483649, 0, 0, 0)), [], [])])
set_option maxRecDepth 1000000 in
theorem sm_705_ok : sv_valid sg sm_705 := sv_main (S := []) (na := 2) (cut := []) (cs := []) (sp := []) (N := 1) sv_nv (by decide +kernel)
-- HungerDays$State.isDue(I)Z (r33, [0,5])
def sm_706 : sv_SM := (206, 2, 0, [.inr (some 33), .inl (2147483648, 2147483653, 0, 0, 0)], [], [], [(some (.inl (2147483649, 2147483649, 0, 0, 0)), [], []), (some (.inl (2147483648, 2147483648, 0, 0, 0)), [], [])])
set_option maxRecDepth 1000000 in
theorem sm_706_ok : sv_valid sg sm_706 := sv_main (S := [sm_580, sm_629]) (na := 2) (cut := []) (cs := []) (sp := []) (N := 1) (sv_cv sm_580_ok (sv_cv sm_629_ok sv_nv)) (by decide +kernel)
-- HungerDays$State.pays(I)Z (r33, [0,5])
def sm_707 : sv_SM := (211, 1, 0, [.inr (some 33), .inl (2147483648, 2147483653, 0, 0, 0)], [], [(35, 0, 5), (39, 0, 5)], [(some (.inl (2147483648, 2147483648, 0, 0, 0)), [], []), (some (.inl (2147483649, 2147483649, 0, 0, 0)), [], [])])
set_option maxRecDepth 1000000 in
theorem sm_707_ok : sv_valid sg sm_707 := sv_main (S := []) (na := 2) (cut := []) (cs := []) (sp := []) (N := 1) sv_nv (by decide +kernel)
-- HungerDays$State.isDue(I)Z (r33, [0,6])
def sm_708 : sv_SM := (206, 2, 0, [.inr (some 33), .inl (2147483648, 2147483654, 0, 0, 0)], [], [], [(some (.inl (2147483649, 2147483649, 0, 0, 0)), [], []), (some (.inl (2147483648, 2147483648, 0, 0, 0)), [], [])])
set_option maxRecDepth 1000000 in
theorem sm_708_ok : sv_valid sg sm_708 := sv_main (S := [sm_580, sm_629]) (na := 2) (cut := []) (cs := []) (sp := []) (N := 1) (sv_cv sm_580_ok (sv_cv sm_629_ok sv_nv)) (by decide +kernel)
-- HungerDays$State.pays(I)Z (r33, [0,6])
def sm_709 : sv_SM := (211, 1, 0, [.inr (some 33), .inl (2147483648, 2147483654, 0, 0, 0)], [], [(35, 0, 5), (39, 0, 6)], [(some (.inl (2147483648, 2147483648, 0, 0, 0)), [], []), (some (.inl (2147483649, 2147483649, 0, 0, 0)), [], [])])
set_option maxRecDepth 1000000 in
theorem sm_709_ok : sv_valid sg sm_709 := sv_main (S := []) (na := 2) (cut := []) (cs := []) (sp := []) (N := 1) sv_nv (by decide +kernel)
-- HungerDays$State.isDue(I)Z (r33, [0,7])
def sm_710 : sv_SM := (206, 2, 0, [.inr (some 33), .inl (2147483648, 2147483655, 0, 0, 0)], [], [], [(some (.inl (2147483649, 2147483649, 0, 0, 0)), [], []), (some (.inl (2147483648, 2147483648, 0, 0, 0)), [], [])])
set_option maxRecDepth 1000000 in
theorem sm_710_ok : sv_valid sg sm_710 := sv_main (S := [sm_580, sm_629]) (na := 2) (cut := []) (cs := []) (sp := []) (N := 1) (sv_cv sm_580_ok (sv_cv sm_629_ok sv_nv)) (by decide +kernel)
-- HungerDays$State.pays(I)Z (r33, [0,7])
def sm_711 : sv_SM := (211, 1, 0, [.inr (some 33), .inl (2147483648, 2147483655, 0, 0, 0)], [], [(35, 0, 5), (39, 0, 7)], [(some (.inl (2147483648, 2147483648, 0, 0, 0)), [], []), (some (.inl (2147483649, 2147483649, 0, 0, 0)), [], [])])
set_option maxRecDepth 1000000 in
theorem sm_711_ok : sv_valid sg sm_711 := sv_main (S := []) (na := 2) (cut := []) (cs := []) (sp := []) (N := 1) sv_nv (by decide +kernel)
-- HungerDays$State.isDue(I)Z (r33, [0,8])
def sm_712 : sv_SM := (206, 2, 0, [.inr (some 33), .inl (2147483648, 2147483656, 0, 0, 0)], [], [], [(some (.inl (2147483649, 2147483649, 0, 0, 0)), [], []), (some (.inl (2147483648, 2147483648, 0, 0, 0)), [], [])])
set_option maxRecDepth 1000000 in
theorem sm_712_ok : sv_valid sg sm_712 := sv_main (S := [sm_580, sm_629]) (na := 2) (cut := []) (cs := []) (sp := []) (N := 1) (sv_cv sm_580_ok (sv_cv sm_629_ok sv_nv)) (by decide +kernel)
-- HungerDays$State.pays(I)Z (r33, [0,8])
def sm_713 : sv_SM := (211, 1, 0, [.inr (some 33), .inl (2147483648, 2147483656, 0, 0, 0)], [], [(35, 0, 5), (39, 0, 8)], [(some (.inl (2147483648, 2147483648, 0, 0, 0)), [], []), (some (.inl (2147483649, 2147483649, 0, 0, 0)), [], [])])
set_option maxRecDepth 1000000 in
theorem sm_713_ok : sv_valid sg sm_713 := sv_main (S := []) (na := 2) (cut := []) (cs := []) (sp := []) (N := 1) sv_nv (by decide +kernel)
-- HungerDays$State.isDue(I)Z (r33, [0,9])
def sm_714 : sv_SM := (206, 2, 0, [.inr (some 33), .inl (2147483648, 2147483657, 0, 0, 0)], [], [], [(some (.inl (2147483649, 2147483649, 0, 0, 0)), [], []), (some (.inl (2147483648, 2147483648, 0, 0, 0)), [], [])])
set_option maxRecDepth 1000000 in
theorem sm_714_ok : sv_valid sg sm_714 := sv_main (S := [sm_580, sm_629]) (na := 2) (cut := []) (cs := []) (sp := []) (N := 1) (sv_cv sm_580_ok (sv_cv sm_629_ok sv_nv)) (by decide +kernel)
-- HungerDays$State.pays(I)Z (r33, [0,9])
def sm_715 : sv_SM := (211, 1, 0, [.inr (some 33), .inl (2147483648, 2147483657, 0, 0, 0)], [], [(35, 0, 5), (39, 0, 9)], [(some (.inl (2147483648, 2147483648, 0, 0, 0)), [], []), (some (.inl (2147483649, 2147483649, 0, 0, 0)), [], [])])
set_option maxRecDepth 1000000 in
theorem sm_715_ok : sv_valid sg sm_715 := sv_main (S := []) (na := 2) (cut := []) (cs := []) (sp := []) (N := 1) sv_nv (by decide +kernel)
-- HungerDays$State.passHour()V (r33)
def sm_716 : sv_SM := (78, 3, 0, [.inr (some 33)], [], [(33, 1, 1), (33, 3, 3), (34, 0, 5), (35, 0, 5), (39, 0, 9)], [(none, [], [])])
set_option maxRecDepth 1000000 in
theorem sm_716_ok : sv_valid sg sm_716 := sv_main (S := [sm_695, sm_580, sm_714, sm_715]) (na := 1) (cut := [22, 81]) (cs := [(22, 1, 1, 5, [some (.inr (some 33)), some (.inl (2147483649, 2147483650, 0, 0, 0)), some (.inl (2147483648, 2147483654, 0, 0, 0)), none], [], []), (81, 2, 2, 7, [some (.inr (some 33)), some (.inl (2147483649, 2147483650, 0, 0, 0)), some (.inl (2147483648, 2147483649, 0, 0, 0)), some (.inl (2147483648, 2147483658, 0, 0, 0))], [], [])]) (sp := []) (N := 3) (sv_cv sm_695_ok (sv_cv sm_580_ok (sv_cv sm_714_ok (sv_cv sm_715_ok sv_nv)))) (by decide +kernel)
-- HungerDays$Draws.passHours(LHungerDays$State;II)I (r120, r33, [1,60], [MIN,MAX])
def sm_717 : sv_SM := (175, 6, 0, [.inr (some 120), .inr (some 33), .inl (2147483649, 2147483708, 0, 0, 0), .inl (0, 4294967295, 0, 0, 0)], [], [(33, 1, 3), (34, 0, 5), (35, 0, 5), (36, 0, 5), (37, 0, 3), (38, 0, 5), (39, 0, 9), (120, 0, 0)], [(some (.inl (2147483648, 2147483708, 0, 0, 0)), [], [])])
set_option maxRecDepth 1000000 in
theorem sm_717_ok : sv_valid sg sm_717 := sv_main (S := [sm_649, sm_674, sm_694, sm_716]) (na := 4) (cut := [8]) (cs := [(8, 1, 1, 9, [some (.inr (some 120)), some (.inr (some 33)), some (.inl (2147483649, 2147483708, 0, 0, 0)), some (.inl (0, 4294967295, 0, 0, 0)), some (.inl (2147483648, 2147483708, 0, 0, 0))], [], [])]) (sp := []) (N := 2) (sv_cv sm_649_ok (sv_cv sm_674_ok (sv_cv sm_694_ok (sv_cv sm_716_ok sv_nv)))) (by decide +kernel)
-- HungerDays.drawn(II)I (r0, [MIN,MAX], [MIN,MAX])
def sm_718 : sv_SM := (8, 7, 0, [.inr (some 0), .inl (0, 4294967295, 0, 0, 0), .inl (0, 4294967295, 0, 0, 0)], [], [(33, 1, 3), (34, 0, 5), (35, 0, 5), (36, 0, 5), (37, 0, 3), (38, 0, 5), (39, 0, 9), (47, 1, 2), (49, 1, 3), (50, 0, 15), (51, 0, 15), (52, 0, 15), (53, 0, 15), (54, 0, 15), (55, 0, 15), (56, 1, 3), (57, 0, 15), (58, 0, 15), (59, 0, 15), (60, 0, 15), (61, 0, 15), (62, 0, 15), (63, 1, 3), (64, 0, 15), (65, 0, 15), (66, 0, 15), (67, 0, 15), (68, 0, 15), (69, 0, 15), (70, 1, 3), (71, 0, 15), (72, 0, 15), (73, 0, 15), (74, 0, 15), (75, 0, 15), (76, 0, 15), (77, 1, 3), (78, 0, 15), (79, 0, 15), (80, 0, 15), (81, 0, 15), (82, 0, 15), (83, 0, 15), (84, 1, 3), (85, 0, 15), (86, 0, 15), (87, 0, 15), (88, 0, 15), (89, 0, 15), (90, 0, 15), (91, 1, 3), (92, 0, 15), (93, 0, 15), (94, 0, 15), (95, 0, 15), (96, 0, 15), (97, 0, 15), (98, 1, 3), (99, 0, 15), (100, 0, 15), (101, 0, 15), (102, 0, 15), (103, 0, 15), (104, 0, 15), (120, 0, 0)], [(some (.inl (2147483647, 2147483647, 0, 0, 0)), [], []), (some (.inl (2147483648, 2147483708, 0, 0, 0)), [.inr (some 0), .inl (2147483649, 2147483708, 0, 0, 0)], [])])
set_option maxRecDepth 1000000 in
theorem sm_718_ok : sv_valid sg sm_718 := sv_main (S := [sm_649, sm_590, sm_717]) (na := 3) (cut := []) (cs := []) (sp := []) (N := 1) (sv_cv sm_649_ok (sv_cv sm_590_ok (sv_cv sm_717_ok sv_nv))) (by decide +kernel)
-- HungerDays.isFood(I)Z (r0, [MIN,MAX])
def sm_719 : sv_SM := (20, 1, 0, [.inr (some 0), .inl (0, 4294967295, 0, 0, 0)], [], [], [(some (.inl (2147483649, 2147483649, 0, 0, 0)), [.inr (some 0), .inl (2147483648, 2147483651, 0, 0, 0)], []), (some (.inl (2147483648, 2147483648, 0, 0, 0)), [], [])])
set_option maxRecDepth 1000000 in
theorem sm_719_ok : sv_valid sg sm_719 := sv_main (S := []) (na := 2) (cut := []) (cs := []) (sp := []) (N := 1) sv_nv (by decide +kernel)
-- HungerDays.eat(II)I (r0, [MIN,MAX], [MIN,MAX])
def sm_720 : sv_SM := (9, 3, 0, [.inr (some 0), .inl (0, 4294967295, 0, 0, 0), .inl (0, 4294967295, 0, 0, 0)], [], [(34, 0, 5), (36, 0, 5), (37, 0, 3), (47, 1, 2), (49, 1, 3), (50, 0, 15), (51, 0, 15), (52, 0, 15), (53, 0, 15), (54, 0, 15), (55, 0, 15), (56, 1, 3), (57, 0, 15), (58, 0, 15), (59, 0, 15), (60, 0, 15), (61, 0, 15), (62, 0, 15), (63, 1, 3), (64, 0, 15), (65, 0, 15), (66, 0, 15), (67, 0, 15), (68, 0, 15), (69, 0, 15), (70, 1, 3), (71, 0, 15), (72, 0, 15), (73, 0, 15), (74, 0, 15), (75, 0, 15), (76, 0, 15), (77, 1, 3), (78, 0, 15), (79, 0, 15), (80, 0, 15), (81, 0, 15), (82, 0, 15), (83, 0, 15), (84, 1, 3), (85, 0, 15), (86, 0, 15), (87, 0, 15), (88, 0, 15), (89, 0, 15), (90, 0, 15), (91, 1, 3), (92, 0, 15), (93, 0, 15), (94, 0, 15), (95, 0, 15), (96, 0, 15), (97, 0, 15), (98, 1, 3), (99, 0, 15), (100, 0, 15), (101, 0, 15), (102, 0, 15), (103, 0, 15), (104, 0, 15)], [(some (.inl (2147483647, 2147483647, 0, 0, 0)), [], []), (some (.inl (2147483648, 2147483651, 0, 0, 0)), [.inr (some 0), .inl (2147483648, 2147483653, 0, 0, 0), .inl (2147483648, 2147483651, 0, 0, 0)], [])])
set_option maxRecDepth 1000000 in
theorem sm_720_ok : sv_valid sg sm_720 := sv_main (S := [sm_579, sm_719, sm_672, sm_590, sm_673]) (na := 3) (cut := []) (cs := []) (sp := []) (N := 1) (sv_cv sm_579_ok (sv_cv sm_719_ok (sv_cv sm_672_ok (sv_cv sm_590_ok (sv_cv sm_673_ok sv_nv))))) (by decide +kernel)
-- HungerDays.end(I)Z (r0, [MIN,MAX])
def sm_721 : sv_SM := (10, 1, 0, [.inr (some 0), .inl (0, 4294967295, 0, 0, 0)], [], [(0, 1, 1)], [(some (.inl (2147483648, 2147483648, 0, 0, 0)), [], []), (some (.inl (2147483649, 2147483649, 0, 0, 0)), [.inr (some 0), .inl (2147483648, 2147484588, 0, 0, 0)], [])])
set_option maxRecDepth 1000000 in
theorem sm_721_ok : sv_valid sg sm_721 := sv_main (S := []) (na := 2) (cut := []) (cs := []) (sp := []) (N := 1) sv_nv (by decide +kernel)
-- HungerDays.fault()I (r0)
def sm_722 : sv_SM := (11, 1, 0, [.inr (some 0)], [], [], [(some (.inl (0, 4294967295, 0, 0, 0)), [], [])])
set_option maxRecDepth 1000000 in
theorem sm_722_ok : sv_valid sg sm_722 := sv_main (S := []) (na := 1) (cut := []) (cs := []) (sp := []) (N := 1) sv_nv (by decide +kernel)
-- HungerDays.feast()I (r0)
def sm_723 : sv_SM := (12, 1, 0, [.inr (some 0)], [], [], [(some (.inl (0, 4294967295, 0, 0, 0)), [], [])])
set_option maxRecDepth 1000000 in
theorem sm_723_ok : sv_valid sg sm_723 := sv_main (S := []) (na := 1) (cut := []) (cs := []) (sp := []) (N := 1) sv_nv (by decide +kernel)
-- HungerDays.food(II)I (r0, [MIN,MAX], [MIN,MAX])
def sm_724 : sv_SM := (14, 2, 0, [.inr (some 0), .inl (0, 4294967295, 0, 0, 0), .inl (0, 4294967295, 0, 0, 0)], [], [], [(some (.inl (2147483647, 2147483647, 0, 0, 0)), [], []), (some (.inl (0, 4294967295, 0, 0, 0)), [.inr (some 0), .inl (2147483648, 2147483651, 0, 0, 0), .inl (2147483648, 2147483649, 0, 0, 0)], [])])
set_option maxRecDepth 1000000 in
theorem sm_724_ok : sv_valid sg sm_724 := sv_main (S := [sm_719]) (na := 3) (cut := []) (cs := []) (sp := []) (N := 1) (sv_cv sm_719_ok sv_nv) (by decide +kernel)
-- HungerDays$State.passHours(I)I (r33, [1,60])
def sm_725 : sv_SM := (79, 4, 0, [.inr (some 33), .inl (2147483649, 2147483708, 0, 0, 0)], [], [(33, 1, 1), (33, 3, 3), (34, 0, 5), (35, 0, 5), (39, 0, 9)], [(some (.inl (2147483648, 2147483708, 0, 0, 0)), [], [])])
set_option maxRecDepth 1000000 in
theorem sm_725_ok : sv_valid sg sm_725 := sv_main (S := [sm_649, sm_716]) (na := 2) (cut := [2]) (cs := [(2, 1, 1, 5, [some (.inr (some 33)), some (.inl (2147483649, 2147483708, 0, 0, 0)), some (.inl (2147483648, 2147483708, 0, 0, 0))], [], [])]) (sp := []) (N := 2) (sv_cv sm_649_ok (sv_cv sm_716_ok sv_nv)) (by decide +kernel)
-- HungerDays.hours(I)I (r0, [MIN,MAX])
def sm_726 : sv_SM := (15, 5, 0, [.inr (some 0), .inl (0, 4294967295, 0, 0, 0)], [], [(33, 1, 1), (33, 3, 3), (34, 0, 5), (35, 0, 5), (39, 0, 9), (47, 1, 2), (49, 1, 3), (50, 0, 15), (51, 0, 15), (52, 0, 15), (53, 0, 15), (54, 0, 15), (55, 0, 15), (56, 1, 3), (57, 0, 15), (58, 0, 15), (59, 0, 15), (60, 0, 15), (61, 0, 15), (62, 0, 15), (63, 1, 3), (64, 0, 15), (65, 0, 15), (66, 0, 15), (67, 0, 15), (68, 0, 15), (69, 0, 15), (70, 1, 3), (71, 0, 15), (72, 0, 15), (73, 0, 15), (74, 0, 15), (75, 0, 15), (76, 0, 15), (77, 1, 3), (78, 0, 15), (79, 0, 15), (80, 0, 15), (81, 0, 15), (82, 0, 15), (83, 0, 15), (84, 1, 3), (85, 0, 15), (86, 0, 15), (87, 0, 15), (88, 0, 15), (89, 0, 15), (90, 0, 15), (91, 1, 3), (92, 0, 15), (93, 0, 15), (94, 0, 15), (95, 0, 15), (96, 0, 15), (97, 0, 15), (98, 1, 3), (99, 0, 15), (100, 0, 15), (101, 0, 15), (102, 0, 15), (103, 0, 15), (104, 0, 15)], [(some (.inl (2147483647, 2147483647, 0, 0, 0)), [], []), (some (.inl (2147483648, 2147483708, 0, 0, 0)), [.inr (some 0), .inl (2147483649, 2147483708, 0, 0, 0)], [])])
set_option maxRecDepth 1000000 in
theorem sm_726_ok : sv_valid sg sm_726 := sv_main (S := [sm_649, sm_590, sm_725]) (na := 2) (cut := []) (cs := []) (sp := []) (N := 1) (sv_cv sm_649_ok (sv_cv sm_590_ok (sv_cv sm_725_ok sv_nv))) (by decide +kernel)
-- HungerDays.isImage(I)Z ([MIN,MAX])
def sm_727 : sv_SM := (21, 1, 0, [.inl (0, 4294967295, 0, 0, 0)], [], [], [(some (.inl (2147483649, 2147483649, 0, 0, 0)), [.inl (2147483648, 2147483649, 0, 0, 0)], []), (some (.inl (2147483648, 2147483648, 0, 0, 0)), [], [])])
set_option maxRecDepth 1000000 in
theorem sm_727_ok : sv_valid sg sm_727 := sv_main (S := []) (na := 1) (cut := []) (cs := []) (sp := []) (N := 1) sv_nv (by decide +kernel)
-- HungerDays$Valley.copyFrom(LHungerDays$Valley;)V (r158, r4)
def sm_728 : sv_SM := (85, 1, 0, [.inr (some 158), .inr (some 4)], [], [(158, 0, 6), (159, 0, 15), (160, 0, 15), (161, 0, 15), (162, 0, 15), (163, 0, 15), (164, 0, 15), (165, 0, 15), (166, 0, 15), (167, 0, 15), (168, 0, 15), (169, 0, 15), (170, 0, 15), (171, 0, 15)], [(none, [], [])])
set_option maxRecDepth 1000000 in
theorem sm_728_ok : sv_valid sg sm_728 := sv_main (S := []) (na := 2) (cut := []) (cs := []) (sp := []) (N := 1) sv_nv (by decide +kernel)
-- HungerDays$State.copyFrom(LHungerDays$State;)V (r172, r33)
def sm_729 : sv_SM := (72, 1, 0, [.inr (some 172), .inr (some 33)], [], [(172, 1, 3), (173, 0, 15), (174, 0, 15), (175, 0, 15), (176, 0, 15), (177, 0, 15), (178, 0, 15)], [(none, [], [])])
set_option maxRecDepth 1000000 in
theorem sm_729_ok : sv_valid sg sm_729 := sv_main (S := []) (na := 2) (cut := []) (cs := []) (sp := []) (N := 1) sv_nv (by decide +kernel)
-- HungerDays$Sentence.copyFrom(LHungerDays$Sentence;)V (r179, r106)
def sm_730 : sv_SM := (65, 1, 0, [.inr (some 179), .inr (some 106)], [], [(179, 0, 1), (180, 0, 47), (181, 0, 47), (182, 0, 47)], [(none, [], [])])
set_option maxRecDepth 1000000 in
theorem sm_730_ok : sv_valid sg sm_730 := sv_main (S := []) (na := 2) (cut := []) (cs := []) (sp := []) (N := 1) sv_nv (by decide +kernel)
-- HungerDays$Valley.copyFrom(LHungerDays$Valley;)V (r131, r4)
def sm_731 : sv_SM := (85, 1, 0, [.inr (some 131), .inr (some 4)], [], [(131, 0, 6), (132, 0, 15), (133, 0, 15), (134, 0, 15), (135, 0, 15), (136, 0, 15), (137, 0, 15), (138, 0, 15), (139, 0, 15), (140, 0, 15), (141, 0, 15), (142, 0, 15), (143, 0, 15), (144, 0, 15)], [(none, [], [])])
set_option maxRecDepth 1000000 in
theorem sm_731_ok : sv_valid sg sm_731 := sv_main (S := []) (na := 2) (cut := []) (cs := []) (sp := []) (N := 1) sv_nv (by decide +kernel)
-- HungerDays$State.copyFrom(LHungerDays$State;)V (r145, r33)
def sm_732 : sv_SM := (72, 1, 0, [.inr (some 145), .inr (some 33)], [], [(145, 1, 3), (146, 0, 15), (147, 0, 15), (148, 0, 15), (149, 0, 15), (150, 0, 15), (151, 0, 15)], [(none, [], [])])
set_option maxRecDepth 1000000 in
theorem sm_732_ok : sv_valid sg sm_732 := sv_main (S := []) (na := 2) (cut := []) (cs := []) (sp := []) (N := 1) sv_nv (by decide +kernel)
-- HungerDays$Sentence.copyFrom(LHungerDays$Sentence;)V (r152, r106)
def sm_733 : sv_SM := (65, 1, 0, [.inr (some 152), .inr (some 106)], [], [(152, 0, 1), (153, 0, 47), (154, 0, 47), (155, 0, 47)], [(none, [], [])])
set_option maxRecDepth 1000000 in
theorem sm_733_ok : sv_valid sg sm_733 := sv_main (S := []) (na := 2) (cut := []) (cs := []) (sp := []) (N := 1) sv_nv (by decide +kernel)
-- HungerDays.image(I)Z (r0, [MIN,MAX])
def sm_734 : sv_SM := (17, 2, 0, [.inr (some 0), .inl (0, 4294967295, 0, 0, 0)], [], [(130, 0, 0), (131, 0, 6), (132, 0, 15), (133, 0, 15), (134, 0, 15), (135, 0, 15), (136, 0, 15), (137, 0, 15), (138, 0, 15), (139, 0, 15), (140, 0, 15), (141, 0, 15), (142, 0, 15), (143, 0, 15), (144, 0, 15), (145, 1, 3), (146, 0, 15), (147, 0, 15), (148, 0, 15), (149, 0, 15), (150, 0, 15), (151, 0, 15), (152, 0, 1), (153, 0, 47), (154, 0, 47), (155, 0, 47), (157, 0, 0), (158, 0, 6), (159, 0, 15), (160, 0, 15), (161, 0, 15), (162, 0, 15), (163, 0, 15), (164, 0, 15), (165, 0, 15), (166, 0, 15), (167, 0, 15), (168, 0, 15), (169, 0, 15), (170, 0, 15), (171, 0, 15), (172, 1, 3), (173, 0, 15), (174, 0, 15), (175, 0, 15), (176, 0, 15), (177, 0, 15), (178, 0, 15), (179, 0, 1), (180, 0, 47), (181, 0, 47), (182, 0, 47)], [(some (.inl (2147483648, 2147483648, 0, 0, 0)), [], []), (some (.inl (2147483649, 2147483649, 0, 0, 0)), [.inr (some 0), .inl (2147483648, 2147483649, 0, 0, 0)], [])])
set_option maxRecDepth 1000000 in
theorem sm_734_ok : sv_valid sg sm_734 := sv_main (S := [sm_727, sm_728, sm_729, sm_730, sm_731, sm_732, sm_733]) (na := 2) (cut := []) (cs := []) (sp := []) (N := 1) (sv_cv sm_727_ok (sv_cv sm_728_ok (sv_cv sm_729_ok (sv_cv sm_730_ok (sv_cv sm_731_ok (sv_cv sm_732_ok (sv_cv sm_733_ok sv_nv))))))) (by decide +kernel)
-- HungerDays.isDate(I)Z ([1,MAX])
def sm_735 : sv_SM := (18, 1, 0, [.inl (2147483649, 4294967295, 0, 0, 0)], [], [], [(some (.inl (2147483649, 2147483649, 0, 0, 0)), [.inl (2147483649, 2147483847, 0, 0, 0)], []), (some (.inl (2147483648, 2147483648, 0, 0, 0)), [.inl (2147483848, 4294967295, 0, 0, 0)], [])])
set_option maxRecDepth 1000000 in
theorem sm_735_ok : sv_valid sg sm_735 := sv_main (S := []) (na := 1) (cut := []) (cs := []) (sp := []) (N := 1) sv_nv (by decide +kernel)
-- HungerDays$State.copyFrom(LHungerDays$State;)V (r40, r33)
def sm_736 : sv_SM := (72, 1, 0, [.inr (some 40), .inr (some 33)], [], [(40, 1, 3), (41, 0, 15), (42, 0, 15), (43, 0, 15), (44, 0, 15), (45, 0, 15), (46, 0, 15)], [(none, [], [])])
set_option maxRecDepth 1000000 in
theorem sm_736_ok : sv_valid sg sm_736 := sv_main (S := []) (na := 2) (cut := []) (cs := []) (sp := []) (N := 1) sv_nv (by decide +kernel)
-- HungerDays$State.isIll(I)Z (r40, 0)
def sm_737 : sv_SM := (207, 1, 0, [.inr (some 40), .inl (2147483648, 2147483648, 0, 0, 0)], [], [], [(some (.inl (2147483649, 2147483649, 0, 0, 0)), [], []), (some (.inl (2147483648, 2147483648, 0, 0, 0)), [], [])])
set_option maxRecDepth 1000000 in
theorem sm_737_ok : sv_valid sg sm_737 := sv_main (S := []) (na := 2) (cut := []) (cs := []) (sp := []) (N := 1) sv_nv (by decide +kernel)
-- HungerDays$State.dateOf(I)I (r40, [0,5])
def sm_738 : sv_SM := (201, 1, 0, [.inr (some 40), .inl (2147483648, 2147483653, 0, 0, 0)], [(65536, 0, 4294967295, 0, 0)], [], [(some (.inl (0, 4294967295, 0, 0, 0)), [], [])])
set_option maxRecDepth 1000000 in
theorem sm_738_ok : sv_valid sg sm_738 := sv_main (S := []) (na := 2) (cut := []) (cs := []) (sp := []) (N := 1) sv_nv (by decide +kernel)
-- HungerDays$State.isIll(I)Z (r40, [0,1])
def sm_739 : sv_SM := (207, 1, 0, [.inr (some 40), .inl (2147483648, 2147483649, 0, 0, 0)], [], [], [(some (.inl (2147483649, 2147483649, 0, 0, 0)), [], []), (some (.inl (2147483648, 2147483648, 0, 0, 0)), [], [])])
set_option maxRecDepth 1000000 in
theorem sm_739_ok : sv_valid sg sm_739 := sv_main (S := []) (na := 2) (cut := []) (cs := []) (sp := []) (N := 1) sv_nv (by decide +kernel)
-- HungerDays$State.isIll(I)Z (r40, [0,2])
def sm_740 : sv_SM := (207, 1, 0, [.inr (some 40), .inl (2147483648, 2147483650, 0, 0, 0)], [], [], [(some (.inl (2147483649, 2147483649, 0, 0, 0)), [], []), (some (.inl (2147483648, 2147483648, 0, 0, 0)), [], [])])
set_option maxRecDepth 1000000 in
theorem sm_740_ok : sv_valid sg sm_740 := sv_main (S := []) (na := 2) (cut := []) (cs := []) (sp := []) (N := 1) sv_nv (by decide +kernel)
-- HungerDays$State.isIll(I)Z (r40, [0,3])
def sm_741 : sv_SM := (207, 1, 0, [.inr (some 40), .inl (2147483648, 2147483651, 0, 0, 0)], [], [], [(some (.inl (2147483649, 2147483649, 0, 0, 0)), [], []), (some (.inl (2147483648, 2147483648, 0, 0, 0)), [], [])])
set_option maxRecDepth 1000000 in
theorem sm_741_ok : sv_valid sg sm_741 := sv_main (S := []) (na := 2) (cut := []) (cs := []) (sp := []) (N := 1) sv_nv (by decide +kernel)
-- HungerDays$State.isIll(I)Z (r40, [0,4])
def sm_742 : sv_SM := (207, 1, 0, [.inr (some 40), .inl (2147483648, 2147483652, 0, 0, 0)], [], [], [(some (.inl (2147483649, 2147483649, 0, 0, 0)), [], []), (some (.inl (2147483648, 2147483648, 0, 0, 0)), [], [])])
set_option maxRecDepth 1000000 in
theorem sm_742_ok : sv_valid sg sm_742 := sv_main (S := []) (na := 2) (cut := []) (cs := []) (sp := []) (N := 1) sv_nv (by decide +kernel)
-- HungerDays$State.isIll(I)Z (r40, [0,5])
def sm_743 : sv_SM := (207, 1, 0, [.inr (some 40), .inl (2147483648, 2147483653, 0, 0, 0)], [], [], [(some (.inl (2147483649, 2147483649, 0, 0, 0)), [], []), (some (.inl (2147483648, 2147483648, 0, 0, 0)), [], [])])
set_option maxRecDepth 1000000 in
theorem sm_743_ok : sv_valid sg sm_743 := sv_main (S := []) (na := 2) (cut := []) (cs := []) (sp := []) (N := 1) sv_nv (by decide +kernel)
-- HungerDays$State.firstHaving(I)I (r40, [1,199])
def sm_744 : sv_SM := (74, 2, 0, [.inr (some 40), .inl (2147483649, 2147483847, 0, 0, 0)], [], [], [(some (.inl (2147483648, 2147483653, 0, 0, 0)), [], []), (some (.inl (2147483647, 2147483647, 0, 0, 0)), [], [])])
set_option maxRecDepth 1000000 in
theorem sm_744_ok : sv_valid sg sm_744 := sv_main (S := [sm_743, sm_738]) (na := 2) (cut := [2]) (cs := [(2, 1, 1, 5, [some (.inr (some 40)), some (.inl (2147483649, 2147483847, 0, 0, 0)), some (.inl (2147483648, 2147483654, 0, 0, 0))], [], [])]) (sp := []) (N := 2) (sv_cv sm_743_ok (sv_cv sm_738_ok sv_nv)) (by decide +kernel)
-- HungerDays$State.mostLeft()I (r40)
def sm_745 : sv_SM := (208, 1, 0, [.inr (some 40)], [], [], [(some (.inl (2147483647, 2147483651, 0, 0, 0)), [], [])])
set_option maxRecDepth 1000000 in
theorem sm_745_ok : sv_valid sg sm_745 := sv_main (S := []) (na := 1) (cut := [6]) (cs := [(6, 1, 1, 7, [some (.inr (some 40)), some (.inl (2147483647, 2147483651, 0, 0, 0)), some (.inl (0, 4294967295, 0, 0, 0)), some (.inl (2147483648, 2147483652, 0, 0, 0))], [], [])]) (sp := []) (N := 2) sv_nv (by decide +kernel)
-- HungerDays$State.takePortion(II)V (r40, [0,5], [0,3])
def sm_746 : sv_SM := (212, 1, 0, [.inr (some 40), .inl (2147483648, 2147483653, 0, 0, 0), .inl (2147483648, 2147483651, 0, 0, 0)], [], [(41, 0, 5), (43, 0, 5), (44, 0, 3)], [(none, [], [])])
set_option maxRecDepth 1000000 in
theorem sm_746_ok : sv_valid sg sm_746 := sv_main (S := []) (na := 3) (cut := []) (cs := []) (sp := []) (N := 1) sv_nv (by decide +kernel)
-- HungerDays$State.eatBelow(I)Z (r40, [1,199])
def sm_747 : sv_SM := (73, 3, 0, [.inr (some 40), .inl (2147483649, 2147483847, 0, 0, 0)], [], [(41, 0, 5), (43, 0, 5), (44, 0, 3)], [(some (.inl (2147483649, 2147483649, 0, 0, 0)), [], []), (some (.inl (2147483648, 2147483648, 0, 0, 0)), [], [])])
set_option maxRecDepth 1000000 in
theorem sm_747_ok : sv_valid sg sm_747 := sv_main (S := [sm_744, sm_745, sm_746]) (na := 2) (cut := [2]) (cs := [(2, 1, 1, 5, [some (.inr (some 40)), some (.inl (2147483649, 2147483847, 0, 0, 0)), some (.inl (2147483648, 2147483669, 0, 0, 0)), none, none], [], [])]) (sp := []) (N := 2) (sv_cv sm_744_ok (sv_cv sm_745_ok (sv_cv sm_746_ok sv_nv))) (by decide +kernel)
-- HungerDays$State.isOver()Z (r40)
def sm_748 : sv_SM := (76, 1, 0, [.inr (some 40)], [], [], [(some (.inl (2147483649, 2147483649, 0, 0, 0)), [], []), (some (.inl (2147483648, 2147483648, 0, 0, 0)), [], [])])
set_option maxRecDepth 1000000 in
theorem sm_748_ok : sv_valid sg sm_748 := sv_main (S := []) (na := 1) (cut := []) (cs := []) (sp := []) (N := 1) sv_nv (by decide +kernel)
-- HungerDays$State.isDue(I)Z (r40, 0)
def sm_749 : sv_SM := (206, 2, 0, [.inr (some 40), .inl (2147483648, 2147483648, 0, 0, 0)], [], [], [(some (.inl (2147483649, 2147483649, 0, 0, 0)), [], []), (some (.inl (2147483648, 2147483648, 0, 0, 0)), [], [])])
set_option maxRecDepth 1000000 in
theorem sm_749_ok : sv_valid sg sm_749 := sv_main (S := [sm_743, sm_738]) (na := 2) (cut := []) (cs := []) (sp := []) (N := 1) (sv_cv sm_743_ok (sv_cv sm_738_ok sv_nv)) (by decide +kernel)
-- HungerDays$State.pays(I)Z (r40, 0)
def sm_750 : sv_SM := (211, 1, 0, [.inr (some 40), .inl (2147483648, 2147483648, 0, 0, 0)], [], [(42, 0, 5), (46, 0, 0)], [(some (.inl (2147483648, 2147483648, 0, 0, 0)), [], []), (some (.inl (2147483649, 2147483649, 0, 0, 0)), [], [])])
set_option maxRecDepth 1000000 in
theorem sm_750_ok : sv_valid sg sm_750 := sv_main (S := []) (na := 2) (cut := []) (cs := []) (sp := []) (N := 1) sv_nv (by decide +kernel)
-- HungerDays$State.isDue(I)Z (r40, [0,1])
def sm_751 : sv_SM := (206, 2, 0, [.inr (some 40), .inl (2147483648, 2147483649, 0, 0, 0)], [], [], [(some (.inl (2147483649, 2147483649, 0, 0, 0)), [], []), (some (.inl (2147483648, 2147483648, 0, 0, 0)), [], [])])
set_option maxRecDepth 1000000 in
theorem sm_751_ok : sv_valid sg sm_751 := sv_main (S := [sm_743, sm_738]) (na := 2) (cut := []) (cs := []) (sp := []) (N := 1) (sv_cv sm_743_ok (sv_cv sm_738_ok sv_nv)) (by decide +kernel)
-- HungerDays$State.pays(I)Z (r40, [0,1])
def sm_752 : sv_SM := (211, 1, 0, [.inr (some 40), .inl (2147483648, 2147483649, 0, 0, 0)], [], [(42, 0, 5), (46, 0, 1)], [(some (.inl (2147483648, 2147483648, 0, 0, 0)), [], []), (some (.inl (2147483649, 2147483649, 0, 0, 0)), [], [])])
set_option maxRecDepth 1000000 in
theorem sm_752_ok : sv_valid sg sm_752 := sv_main (S := []) (na := 2) (cut := []) (cs := []) (sp := []) (N := 1) sv_nv (by decide +kernel)
-- HungerDays$State.isDue(I)Z (r40, [0,2])
def sm_753 : sv_SM := (206, 2, 0, [.inr (some 40), .inl (2147483648, 2147483650, 0, 0, 0)], [], [], [(some (.inl (2147483649, 2147483649, 0, 0, 0)), [], []), (some (.inl (2147483648, 2147483648, 0, 0, 0)), [], [])])
set_option maxRecDepth 1000000 in
theorem sm_753_ok : sv_valid sg sm_753 := sv_main (S := [sm_743, sm_738]) (na := 2) (cut := []) (cs := []) (sp := []) (N := 1) (sv_cv sm_743_ok (sv_cv sm_738_ok sv_nv)) (by decide +kernel)
-- HungerDays$State.pays(I)Z (r40, [0,2])
def sm_754 : sv_SM := (211, 1, 0, [.inr (some 40), .inl (2147483648, 2147483650, 0, 0, 0)], [], [(42, 0, 5), (46, 0, 2)], [(some (.inl (2147483648, 2147483648, 0, 0, 0)), [], []), (some (.inl (2147483649, 2147483649, 0, 0, 0)), [], [])])
set_option maxRecDepth 1000000 in
theorem sm_754_ok : sv_valid sg sm_754 := sv_main (S := []) (na := 2) (cut := []) (cs := []) (sp := []) (N := 1) sv_nv (by decide +kernel)
-- HungerDays$State.isDue(I)Z (r40, [0,3])
def sm_755 : sv_SM := (206, 2, 0, [.inr (some 40), .inl (2147483648, 2147483651, 0, 0, 0)], [], [], [(some (.inl (2147483649, 2147483649, 0, 0, 0)), [], []), (some (.inl (2147483648, 2147483648, 0, 0, 0)), [], [])])
set_option maxRecDepth 1000000 in
theorem sm_755_ok : sv_valid sg sm_755 := sv_main (S := [sm_743, sm_738]) (na := 2) (cut := []) (cs := []) (sp := []) (N := 1) (sv_cv sm_743_ok (sv_cv sm_738_ok sv_nv)) (by decide +kernel)
-- HungerDays$State.pays(I)Z (r40, [0,3])
def sm_756 : sv_SM := (211, 1, 0, [.inr (some 40), .inl (2147483648, 2147483651, 0, 0, 0)], [], [(42, 0, 5), (46, 0, 3)], [(some (.inl (2147483648, 2147483648, 0, 0, 0)), [], []), (some (.inl (2147483649, 2147483649, 0, 0, 0)), [], [])])
set_option maxRecDepth 1000000 in
theorem sm_756_ok : sv_valid sg sm_756 := sv_main (S := []) (na := 2) (cut := []) (cs := []) (sp := []) (N := 1) sv_nv (by decide +kernel)
-- HungerDays$State.isDue(I)Z (r40, [0,4])
def sm_757 : sv_SM := (206, 2, 0, [.inr (some 40), .inl (2147483648, 2147483652, 0, 0, 0)], [], [], [(some (.inl (2147483649, 2147483649, 0, 0, 0)), [], []), (some (.inl (2147483648, 2147483648, 0, 0, 0)), [], [])])
set_option maxRecDepth 1000000 in
theorem sm_757_ok : sv_valid sg sm_757 := sv_main (S := [sm_743, sm_738]) (na := 2) (cut := []) (cs := []) (sp := []) (N := 1) (sv_cv sm_743_ok (sv_cv sm_738_ok sv_nv)) (by decide +kernel)
-- HungerDays$State.pays(I)Z (r40, [0,4])
def sm_758 : sv_SM := (211, 1, 0, [.inr (some 40), .inl (2147483648, 2147483652, 0, 0, 0)], [], [(42, 0, 5), (46, 0, 4)], [(some (.inl (2147483648, 2147483648, 0, 0, 0)), [], []), (some (.inl (2147483649, 2147483649, 0, 0, 0)), [], [])])
set_option maxRecDepth 1000000 in
theorem sm_758_ok : sv_valid sg sm_758 := sv_main (S := []) (na := 2) (cut := []) (cs := []) (sp := []) (N := 1) sv_nv (by decide +kernel)
-- HungerDays$State.isDue(I)Z (r40, [0,5])
def sm_759 : sv_SM := (206, 2, 0, [.inr (some 40), .inl (2147483648, 2147483653, 0, 0, 0)], [], [], [(some (.inl (2147483649, 2147483649, 0, 0, 0)), [], []), (some (.inl (2147483648, 2147483648, 0, 0, 0)), [], [])])
set_option maxRecDepth 1000000 in
theorem sm_759_ok : sv_valid sg sm_759 := sv_main (S := [sm_743, sm_738]) (na := 2) (cut := []) (cs := []) (sp := []) (N := 1) (sv_cv sm_743_ok (sv_cv sm_738_ok sv_nv)) (by decide +kernel)
-- HungerDays$State.pays(I)Z (r40, [0,5])
def sm_760 : sv_SM := (211, 1, 0, [.inr (some 40), .inl (2147483648, 2147483653, 0, 0, 0)], [], [(42, 0, 5), (46, 0, 5)], [(some (.inl (2147483648, 2147483648, 0, 0, 0)), [], []), (some (.inl (2147483649, 2147483649, 0, 0, 0)), [], [])])
set_option maxRecDepth 1000000 in
theorem sm_760_ok : sv_valid sg sm_760 := sv_main (S := []) (na := 2) (cut := []) (cs := []) (sp := []) (N := 1) sv_nv (by decide +kernel)
-- HungerDays$State.isDue(I)Z (r40, [0,6])
def sm_761 : sv_SM := (206, 2, 0, [.inr (some 40), .inl (2147483648, 2147483654, 0, 0, 0)], [], [], [(some (.inl (2147483649, 2147483649, 0, 0, 0)), [], []), (some (.inl (2147483648, 2147483648, 0, 0, 0)), [], [])])
set_option maxRecDepth 1000000 in
theorem sm_761_ok : sv_valid sg sm_761 := sv_main (S := [sm_743, sm_738]) (na := 2) (cut := []) (cs := []) (sp := []) (N := 1) (sv_cv sm_743_ok (sv_cv sm_738_ok sv_nv)) (by decide +kernel)
-- HungerDays$State.pays(I)Z (r40, [0,6])
def sm_762 : sv_SM := (211, 1, 0, [.inr (some 40), .inl (2147483648, 2147483654, 0, 0, 0)], [], [(42, 0, 5), (46, 0, 6)], [(some (.inl (2147483648, 2147483648, 0, 0, 0)), [], []), (some (.inl (2147483649, 2147483649, 0, 0, 0)), [], [])])
set_option maxRecDepth 1000000 in
theorem sm_762_ok : sv_valid sg sm_762 := sv_main (S := []) (na := 2) (cut := []) (cs := []) (sp := []) (N := 1) sv_nv (by decide +kernel)
-- HungerDays$State.isDue(I)Z (r40, [0,7])
def sm_763 : sv_SM := (206, 2, 0, [.inr (some 40), .inl (2147483648, 2147483655, 0, 0, 0)], [], [], [(some (.inl (2147483649, 2147483649, 0, 0, 0)), [], []), (some (.inl (2147483648, 2147483648, 0, 0, 0)), [], [])])
set_option maxRecDepth 1000000 in
theorem sm_763_ok : sv_valid sg sm_763 := sv_main (S := [sm_743, sm_738]) (na := 2) (cut := []) (cs := []) (sp := []) (N := 1) (sv_cv sm_743_ok (sv_cv sm_738_ok sv_nv)) (by decide +kernel)
-- HungerDays$State.pays(I)Z (r40, [0,7])
def sm_764 : sv_SM := (211, 1, 0, [.inr (some 40), .inl (2147483648, 2147483655, 0, 0, 0)], [], [(42, 0, 5), (46, 0, 7)], [(some (.inl (2147483648, 2147483648, 0, 0, 0)), [], []), (some (.inl (2147483649, 2147483649, 0, 0, 0)), [], [])])
set_option maxRecDepth 1000000 in
theorem sm_764_ok : sv_valid sg sm_764 := sv_main (S := []) (na := 2) (cut := []) (cs := []) (sp := []) (N := 1) sv_nv (by decide +kernel)
-- HungerDays$State.isDue(I)Z (r40, [0,8])
def sm_765 : sv_SM := (206, 2, 0, [.inr (some 40), .inl (2147483648, 2147483656, 0, 0, 0)], [], [], [(some (.inl (2147483649, 2147483649, 0, 0, 0)), [], []), (some (.inl (2147483648, 2147483648, 0, 0, 0)), [], [])])
set_option maxRecDepth 1000000 in
theorem sm_765_ok : sv_valid sg sm_765 := sv_main (S := [sm_743, sm_738]) (na := 2) (cut := []) (cs := []) (sp := []) (N := 1) (sv_cv sm_743_ok (sv_cv sm_738_ok sv_nv)) (by decide +kernel)
-- HungerDays$State.pays(I)Z (r40, [0,8])
def sm_766 : sv_SM := (211, 1, 0, [.inr (some 40), .inl (2147483648, 2147483656, 0, 0, 0)], [], [(42, 0, 5), (46, 0, 8)], [(some (.inl (2147483648, 2147483648, 0, 0, 0)), [], []), (some (.inl (2147483649, 2147483649, 0, 0, 0)), [], [])])
set_option maxRecDepth 1000000 in
theorem sm_766_ok : sv_valid sg sm_766 := sv_main (S := []) (na := 2) (cut := []) (cs := []) (sp := []) (N := 1) sv_nv (by decide +kernel)
-- HungerDays$State.isDue(I)Z (r40, [0,9])
def sm_767 : sv_SM := (206, 2, 0, [.inr (some 40), .inl (2147483648, 2147483657, 0, 0, 0)], [], [], [(some (.inl (2147483649, 2147483649, 0, 0, 0)), [], []), (some (.inl (2147483648, 2147483648, 0, 0, 0)), [], [])])
set_option maxRecDepth 1000000 in
theorem sm_767_ok : sv_valid sg sm_767 := sv_main (S := [sm_743, sm_738]) (na := 2) (cut := []) (cs := []) (sp := []) (N := 1) (sv_cv sm_743_ok (sv_cv sm_738_ok sv_nv)) (by decide +kernel)
-- HungerDays$State.pays(I)Z (r40, [0,9])
def sm_768 : sv_SM := (211, 1, 0, [.inr (some 40), .inl (2147483648, 2147483657, 0, 0, 0)], [], [(42, 0, 5), (46, 0, 9)], [(some (.inl (2147483648, 2147483648, 0, 0, 0)), [], []), (some (.inl (2147483649, 2147483649, 0, 0, 0)), [], [])])
set_option maxRecDepth 1000000 in
theorem sm_768_ok : sv_valid sg sm_768 := sv_main (S := []) (na := 2) (cut := []) (cs := []) (sp := []) (N := 1) sv_nv (by decide +kernel)
-- HungerDays$State.passHour()V (r40)
def sm_769 : sv_SM := (78, 3, 0, [.inr (some 40)], [], [(40, 1, 1), (40, 3, 3), (41, 0, 5), (42, 0, 5), (46, 0, 9)], [(none, [], [])])
set_option maxRecDepth 1000000 in
theorem sm_769_ok : sv_valid sg sm_769 := sv_main (S := [sm_695, sm_743, sm_767, sm_768]) (na := 1) (cut := [22, 81]) (cs := [(22, 1, 1, 5, [some (.inr (some 40)), some (.inl (2147483649, 2147483650, 0, 0, 0)), some (.inl (2147483648, 2147483654, 0, 0, 0)), none], [], []), (81, 2, 2, 7, [some (.inr (some 40)), some (.inl (2147483649, 2147483650, 0, 0, 0)), some (.inl (2147483648, 2147483649, 0, 0, 0)), some (.inl (2147483648, 2147483658, 0, 0, 0))], [], [])]) (sp := []) (N := 3) (sv_cv sm_695_ok (sv_cv sm_743_ok (sv_cv sm_767_ok (sv_cv sm_768_ok sv_nv)))) (by decide +kernel)
-- HungerDays.keeps(I)I (r0, [MIN,MAX])
def sm_770 : sv_SM := (24, 4, 0, [.inr (some 0), .inl (0, 4294967295, 0, 0, 0)], [], [(40, 1, 3), (41, 0, 15), (42, 0, 15), (43, 0, 15), (44, 0, 15), (45, 0, 15), (46, 0, 15)], [(some (.inl (2147483647, 2147483647, 0, 0, 0)), [], []), (some (.inl (2147483648, 2147483848, 0, 0, 0)), [.inr (some 0), .inl (2147483649, 2147483847, 0, 0, 0)], [])])
set_option maxRecDepth 1000000 in
theorem sm_770_ok : sv_valid sg sm_770 := sv_main (S := [sm_735, sm_736, sm_747, sm_748, sm_769]) (na := 2) (cut := [27]) (cs := [(27, 1, 1, 5, [some (.inr (some 0)), some (.inl (2147483649, 2147483847, 0, 0, 0)), some (.inl (2147483648, 2147483848, 0, 0, 0))], [], [])]) (sp := []) (N := 2) (sv_cv sm_735_ok (sv_cv sm_736_ok (sv_cv sm_747_ok (sv_cv sm_748_ok (sv_cv sm_769_ok sv_nv))))) (by decide +kernel)
-- HungerDays.isDate(I)Z ([MIN,MAX])
def sm_771 : sv_SM := (18, 1, 0, [.inl (0, 4294967295, 0, 0, 0)], [], [], [(some (.inl (2147483649, 2147483649, 0, 0, 0)), [.inl (2147483648, 2147483847, 0, 0, 0)], []), (some (.inl (2147483648, 2147483648, 0, 0, 0)), [], [])])
set_option maxRecDepth 1000000 in
theorem sm_771_ok : sv_valid sg sm_771 := sv_main (S := []) (na := 1) (cut := []) (cs := []) (sp := []) (N := 1) sv_nv (by decide +kernel)
-- HungerDays$State.allHave(I)Z (r40, [0,199])
def sm_772 : sv_SM := (200, 2, 0, [.inr (some 40), .inl (2147483648, 2147483847, 0, 0, 0)], [], [], [(some (.inl (2147483648, 2147483648, 0, 0, 0)), [], []), (some (.inl (2147483649, 2147483649, 0, 0, 0)), [], [])])
set_option maxRecDepth 1000000 in
theorem sm_772_ok : sv_valid sg sm_772 := sv_main (S := [sm_738]) (na := 2) (cut := [2]) (cs := [(2, 1, 1, 5, [some (.inr (some 40)), some (.inl (2147483648, 2147483847, 0, 0, 0)), some (.inl (2147483648, 2147483654, 0, 0, 0))], [], [])]) (sp := []) (N := 2) (sv_cv sm_738_ok sv_nv) (by decide +kernel)
-- HungerDays.late(I)I (r0, [MIN,MAX])
def sm_773 : sv_SM := (25, 4, 0, [.inr (some 0), .inl (0, 4294967295, 0, 0, 0)], [], [(40, 1, 3), (41, 0, 15), (42, 0, 15), (43, 0, 15), (44, 0, 15), (45, 0, 15), (46, 0, 15)], [(some (.inl (2147483647, 2147483647, 0, 0, 0)), [], []), (some (.inl (0, 4294967295, 0, 0, 0)), [.inr (some 0), .inl (2147483648, 2147483847, 0, 0, 0)], [])])
set_option maxRecDepth 1000000 in
theorem sm_773_ok : sv_valid sg sm_773 := sv_main (S := [sm_771, sm_736, sm_772, sm_748, sm_769]) (na := 2) (cut := [32]) (cs := [(32, 1, 1, 5, [some (.inr (some 0)), some (.inl (2147483648, 2147483847, 0, 0, 0)), some (.inl (2147483648, 2147483849, 0, 0, 0))], [], [])]) (sp := []) (N := 2) (sv_cv sm_771_ok (sv_cv sm_736_ok (sv_cv sm_772_ok (sv_cv sm_748_ok (sv_cv sm_769_ok sv_nv))))) (by decide +kernel)
-- HungerDays$State.passHours(I)I (r40, [MIN,MAX])
def sm_774 : sv_SM := (79, 4, 0, [.inr (some 40), .inl (0, 4294967295, 0, 0, 0)], [], [(40, 1, 1), (40, 3, 3), (41, 0, 5), (42, 0, 5), (46, 0, 9)], [(some (.inl (2147483648, 4294967295, 0, 0, 0)), [], [])])
set_option maxRecDepth 1000000 in
theorem sm_774_ok : sv_valid sg sm_774 := sv_main (S := [sm_748, sm_769]) (na := 2) (cut := [2]) (cs := [(2, 1, 1, 5, [some (.inr (some 40)), some (.inl (0, 4294967295, 0, 0, 0)), some (.inl (2147483648, 4294967295, 0, 0, 0))], [], [])]) (sp := []) (N := 2) (sv_cv sm_748_ok (sv_cv sm_769_ok sv_nv)) (by decide +kernel)
-- HungerDays.later(II)I (r0, [MIN,MAX], [MIN,MAX])
def sm_775 : sv_SM := (26, 5, 0, [.inr (some 0), .inl (0, 4294967295, 0, 0, 0), .inl (0, 4294967295, 0, 0, 0)], [], [(40, 1, 3), (41, 0, 15), (42, 0, 15), (43, 0, 15), (44, 0, 15), (45, 0, 15), (46, 0, 15)], [(some (.inl (2147483647, 2147483647, 0, 0, 0)), [], []), (some (.inl (0, 4294967295, 0, 0, 0)), [.inr (some 0), .inl (2147483648, 2147483653, 0, 0, 0), .inl (0, 2147484248, 0, 0, 0)], [])])
set_option maxRecDepth 1000000 in
theorem sm_775_ok : sv_valid sg sm_775 := sv_main (S := [sm_579, sm_736, sm_774, sm_738]) (na := 3) (cut := []) (cs := []) (sp := []) (N := 1) (sv_cv sm_579_ok (sv_cv sm_736_ok (sv_cv sm_774_ok (sv_cv sm_738_ok sv_nv)))) (by decide +kernel)
-- HungerDays.isMeeting(I)Z (r0, [MIN,MAX])
def sm_776 : sv_SM := (22, 1, 0, [.inr (some 0), .inl (0, 4294967295, 0, 0, 0)], [], [], [(some (.inl (2147483649, 2147483649, 0, 0, 0)), [.inr (some 0), .inl (2147483648, 2147483653, 0, 0, 0)], []), (some (.inl (2147483648, 2147483648, 0, 0, 0)), [], [])])
set_option maxRecDepth 1000000 in
theorem sm_776_ok : sv_valid sg sm_776 := sv_main (S := []) (na := 2) (cut := []) (cs := []) (sp := []) (N := 1) sv_nv (by decide +kernel)
-- HungerDays.meet(I)I (r0, [MIN,MAX])
def sm_777 : sv_SM := (27, 5, 0, [.inr (some 0), .inl (0, 4294967295, 0, 0, 0)], [], [(38, 0, 5), (47, 1, 2), (49, 1, 3), (50, 0, 15), (51, 0, 15), (52, 0, 15), (53, 0, 15), (54, 0, 15), (55, 0, 15), (56, 1, 3), (57, 0, 15), (58, 0, 15), (59, 0, 15), (60, 0, 15), (61, 0, 15), (62, 0, 15), (63, 1, 3), (64, 0, 15), (65, 0, 15), (66, 0, 15), (67, 0, 15), (68, 0, 15), (69, 0, 15), (70, 1, 3), (71, 0, 15), (72, 0, 15), (73, 0, 15), (74, 0, 15), (75, 0, 15), (76, 0, 15), (77, 1, 3), (78, 0, 15), (79, 0, 15), (80, 0, 15), (81, 0, 15), (82, 0, 15), (83, 0, 15), (84, 1, 3), (85, 0, 15), (86, 0, 15), (87, 0, 15), (88, 0, 15), (89, 0, 15), (90, 0, 15), (91, 1, 3), (92, 0, 15), (93, 0, 15), (94, 0, 15), (95, 0, 15), (96, 0, 15), (97, 0, 15), (98, 1, 3), (99, 0, 15), (100, 0, 15), (101, 0, 15), (102, 0, 15), (103, 0, 15), (104, 0, 15)], [(some (.inl (2147483647, 2147483647, 0, 0, 0)), [], []), (some (.inl (2147483648, 2147483651, 0, 0, 0)), [.inr (some 0), .inl (2147483648, 2147483653, 0, 0, 0)], [])])
set_option maxRecDepth 1000000 in
theorem sm_777_ok : sv_valid sg sm_777 := sv_main (S := [sm_776, sm_692, sm_590, sm_693]) (na := 2) (cut := []) (cs := []) (sp := []) (N := 1) (sv_cv sm_776_ok (sv_cv sm_692_ok (sv_cv sm_590_ok (sv_cv sm_693_ok sv_nv)))) (by decide +kernel)
-- HungerDays.meeting(II)I (r0, [MIN,MAX], [MIN,MAX])
def sm_778 : sv_SM := (28, 5, 0, [.inr (some 0), .inl (0, 4294967295, 0, 0, 0), .inl (0, 4294967295, 0, 0, 0)], [], [], [(some (.inl (2147483647, 2147483647, 0, 0, 0)), [], []), (some (.inl (0, 4294967295, 0, 0, 0)), [.inr (some 0), .inl (2147483648, 2147483653, 0, 0, 0), .inl (2147483648, 2147483651, 0, 0, 0)], [])])
set_option maxRecDepth 1000000 in
theorem sm_778_ok : sv_valid sg sm_778 := sv_main (S := [sm_776, sm_681, sm_692]) (na := 3) (cut := []) (cs := []) (sp := []) (N := 1) (sv_cv sm_776_ok (sv_cv sm_681_ok (sv_cv sm_692_ok sv_nv))) (by decide +kernel)
-- HungerDays$State.whyNotMend(I)I (r33, [0,5])
def sm_779 : sv_SM := (218, 2, 0, [.inr (some 33), .inl (2147483648, 2147483653, 0, 0, 0)], [], [], [(some (.inl (2147483648, 2147483649, 0, 0, 0)), [], [])])
set_option maxRecDepth 1000000 in
theorem sm_779_ok : sv_valid sg sm_779 := sv_main (S := [sm_580]) (na := 2) (cut := []) (cs := []) (sp := []) (N := 1) (sv_cv sm_580_ok sv_nv) (by decide +kernel)
-- HungerDays.mend(I)I (r0, [MIN,MAX])
def sm_780 : sv_SM := (29, 3, 0, [.inr (some 0), .inl (0, 4294967295, 0, 0, 0)], [], [(33, 2, 2), (47, 1, 2), (49, 1, 3), (50, 0, 15), (51, 0, 15), (52, 0, 15), (53, 0, 15), (54, 0, 15), (55, 0, 15), (56, 1, 3), (57, 0, 15), (58, 0, 15), (59, 0, 15), (60, 0, 15), (61, 0, 15), (62, 0, 15), (63, 1, 3), (64, 0, 15), (65, 0, 15), (66, 0, 15), (67, 0, 15), (68, 0, 15), (69, 0, 15), (70, 1, 3), (71, 0, 15), (72, 0, 15), (73, 0, 15), (74, 0, 15), (75, 0, 15), (76, 0, 15), (77, 1, 3), (78, 0, 15), (79, 0, 15), (80, 0, 15), (81, 0, 15), (82, 0, 15), (83, 0, 15), (84, 1, 3), (85, 0, 15), (86, 0, 15), (87, 0, 15), (88, 0, 15), (89, 0, 15), (90, 0, 15), (91, 1, 3), (92, 0, 15), (93, 0, 15), (94, 0, 15), (95, 0, 15), (96, 0, 15), (97, 0, 15), (98, 1, 3), (99, 0, 15), (100, 0, 15), (101, 0, 15), (102, 0, 15), (103, 0, 15), (104, 0, 15)], [(some (.inl (2147483647, 2147483647, 0, 0, 0)), [], []), (some (.inl (2147483648, 2147483649, 0, 0, 0)), [.inr (some 0), .inl (2147483648, 2147483653, 0, 0, 0)], [])])
set_option maxRecDepth 1000000 in
theorem sm_780_ok : sv_valid sg sm_780 := sv_main (S := [sm_579, sm_779, sm_590, sm_591]) (na := 2) (cut := []) (cs := []) (sp := []) (N := 1) (sv_cv sm_579_ok (sv_cv sm_779_ok (sv_cv sm_590_ok (sv_cv sm_591_ok sv_nv)))) (by decide +kernel)
-- HungerDays.sumOf([II)I (r37, [0,4])
def sm_781 : sv_SM := (41, 1, 0, [.inr (some 37), .inl (2147483648, 2147483652, 0, 0, 0)], [], [], [(some (.inl (0, 4294967295, 0, 0, 0)), [], [])])
set_option maxRecDepth 1000000 in
theorem sm_781_ok : sv_valid sg sm_781 := sv_main (S := []) (na := 2) (cut := [4]) (cs := [(4, 1, 1, 7, [some (.inr (some 37)), some (.inl (2147483648, 2147483652, 0, 0, 0)), some (.inl (0, 4294967295, 0, 0, 0)), some (.inl (2147483648, 2147483652, 0, 0, 0))], [], [])]) (sp := []) (N := 2) sv_nv (by decide +kernel)
-- HungerDays.sumOf([II)I (r35, [0,6])
def sm_782 : sv_SM := (41, 1, 0, [.inr (some 35), .inl (2147483648, 2147483654, 0, 0, 0)], [], [], [(some (.inl (0, 4294967295, 0, 0, 0)), [], [])])
set_option maxRecDepth 1000000 in
theorem sm_782_ok : sv_valid sg sm_782 := sv_main (S := []) (na := 2) (cut := [4]) (cs := [(4, 1, 1, 7, [some (.inr (some 35)), some (.inl (2147483648, 2147483654, 0, 0, 0)), some (.inl (0, 4294967295, 0, 0, 0)), some (.inl (2147483648, 2147483654, 0, 0, 0))], [], [])]) (sp := []) (N := 2) sv_nv (by decide +kernel)
-- HungerDays$State.paidDebts()I (r33)
def sm_783 : sv_SM := (77, 1, 0, [.inr (some 33)], [], [], [(some (.inl (0, 4294967295, 0, 0, 0)), [], [])])
set_option maxRecDepth 1000000 in
theorem sm_783_ok : sv_valid sg sm_783 := sv_main (S := []) (na := 1) (cut := [4]) (cs := [(4, 1, 1, 5, [some (.inr (some 33)), some (.inl (0, 4294967295, 0, 0, 0)), some (.inl (2147483648, 2147483658, 0, 0, 0))], [], [])]) (sp := []) (N := 2) sv_nv (by decide +kernel)
-- HungerDays$State.heldMeetings()I (r33)
def sm_784 : sv_SM := (75, 1, 0, [.inr (some 33)], [], [], [(some (.inl (0, 4294967295, 0, 0, 0)), [], [])])
set_option maxRecDepth 1000000 in
theorem sm_784_ok : sv_valid sg sm_784 := sv_main (S := []) (na := 1) (cut := [4]) (cs := [(4, 1, 1, 5, [some (.inr (some 33)), some (.inl (0, 4294967295, 0, 0, 0)), some (.inl (2147483648, 2147483654, 0, 0, 0))], [], [])]) (sp := []) (N := 2) sv_nv (by decide +kernel)
-- HungerDays.now(I)I (r0, [MIN,MAX])
def sm_785 : sv_SM := (30, 2, 0, [.inr (some 0), .inl (0, 4294967295, 0, 0, 0)], [], [], [(some (.inl (0, 4294967295, 0, 0, 0)), [.inr (some 0), .inl (2147483648, 2147483655, 0, 0, 0)], []), (some (.inl (2147483647, 2147483647, 0, 0, 0)), [], [])])
set_option maxRecDepth 1000000 in
theorem sm_785_ok : sv_valid sg sm_785 := sv_main (S := [sm_781, sm_782, sm_783, sm_784, sm_695]) (na := 2) (cut := []) (cs := []) (sp := []) (N := 1) (sv_cv sm_781_ok (sv_cv sm_782_ok (sv_cv sm_783_ok (sv_cv sm_784_ok (sv_cv sm_695_ok sv_nv))))) (by decide +kernel)
-- HungerDays$State.whyNotEat(II)I (r40, 0, [0,3])
def sm_786 : sv_SM := (216, 2, 0, [.inr (some 40), .inl (2147483648, 2147483648, 0, 0, 0), .inl (2147483648, 2147483651, 0, 0, 0)], [], [], [(some (.inl (2147483648, 2147483651, 0, 0, 0)), [], [])])
set_option maxRecDepth 1000000 in
theorem sm_786_ok : sv_valid sg sm_786 := sv_main (S := [sm_737]) (na := 3) (cut := []) (cs := []) (sp := []) (N := 1) (sv_cv sm_737_ok sv_nv) (by decide +kernel)
-- HungerDays$State.takePortion(II)V (r40, 0, [0,3])
def sm_787 : sv_SM := (212, 1, 0, [.inr (some 40), .inl (2147483648, 2147483648, 0, 0, 0), .inl (2147483648, 2147483651, 0, 0, 0)], [], [(41, 0, 0), (43, 0, 0), (44, 0, 3)], [(none, [], [])])
set_option maxRecDepth 1000000 in
theorem sm_787_ok : sv_valid sg sm_787 := sv_main (S := []) (na := 3) (cut := []) (cs := []) (sp := []) (N := 1) sv_nv (by decide +kernel)
-- HungerDays$State.turnHealth(I)V (r40, 0)
def sm_788 : sv_SM := (213, 1, 0, [.inr (some 40), .inl (2147483648, 2147483648, 0, 0, 0)], [], [(40, 2, 2)], [(none, [], [])])
set_option maxRecDepth 1000000 in
theorem sm_788_ok : sv_valid sg sm_788 := sv_main (S := []) (na := 2) (cut := []) (cs := []) (sp := []) (N := 1) sv_nv (by decide +kernel)
-- HungerDays$State.whyNotEat(II)I (r40, [0,1], [0,3])
def sm_789 : sv_SM := (216, 2, 0, [.inr (some 40), .inl (2147483648, 2147483649, 0, 0, 0), .inl (2147483648, 2147483651, 0, 0, 0)], [], [], [(some (.inl (2147483648, 2147483651, 0, 0, 0)), [], [])])
set_option maxRecDepth 1000000 in
theorem sm_789_ok : sv_valid sg sm_789 := sv_main (S := [sm_739]) (na := 3) (cut := []) (cs := []) (sp := []) (N := 1) (sv_cv sm_739_ok sv_nv) (by decide +kernel)
-- HungerDays$State.takePortion(II)V (r40, [0,1], [0,3])
def sm_790 : sv_SM := (212, 1, 0, [.inr (some 40), .inl (2147483648, 2147483649, 0, 0, 0), .inl (2147483648, 2147483651, 0, 0, 0)], [], [(41, 0, 1), (43, 0, 1), (44, 0, 3)], [(none, [], [])])
set_option maxRecDepth 1000000 in
theorem sm_790_ok : sv_valid sg sm_790 := sv_main (S := []) (na := 3) (cut := []) (cs := []) (sp := []) (N := 1) sv_nv (by decide +kernel)
-- HungerDays$State.turnHealth(I)V (r40, [0,1])
def sm_791 : sv_SM := (213, 1, 0, [.inr (some 40), .inl (2147483648, 2147483649, 0, 0, 0)], [], [(40, 2, 2)], [(none, [], [])])
set_option maxRecDepth 1000000 in
theorem sm_791_ok : sv_valid sg sm_791 := sv_main (S := []) (na := 2) (cut := []) (cs := []) (sp := []) (N := 1) sv_nv (by decide +kernel)
-- HungerDays$State.whyNotEat(II)I (r40, [0,2], [0,3])
def sm_792 : sv_SM := (216, 2, 0, [.inr (some 40), .inl (2147483648, 2147483650, 0, 0, 0), .inl (2147483648, 2147483651, 0, 0, 0)], [], [], [(some (.inl (2147483648, 2147483651, 0, 0, 0)), [], [])])
set_option maxRecDepth 1000000 in
theorem sm_792_ok : sv_valid sg sm_792 := sv_main (S := [sm_740]) (na := 3) (cut := []) (cs := []) (sp := []) (N := 1) (sv_cv sm_740_ok sv_nv) (by decide +kernel)
-- HungerDays$State.takePortion(II)V (r40, [0,2], [0,3])
def sm_793 : sv_SM := (212, 1, 0, [.inr (some 40), .inl (2147483648, 2147483650, 0, 0, 0), .inl (2147483648, 2147483651, 0, 0, 0)], [], [(41, 0, 2), (43, 0, 2), (44, 0, 3)], [(none, [], [])])
set_option maxRecDepth 1000000 in
theorem sm_793_ok : sv_valid sg sm_793 := sv_main (S := []) (na := 3) (cut := []) (cs := []) (sp := []) (N := 1) sv_nv (by decide +kernel)
-- HungerDays$State.turnHealth(I)V (r40, [0,2])
def sm_794 : sv_SM := (213, 1, 0, [.inr (some 40), .inl (2147483648, 2147483650, 0, 0, 0)], [], [(40, 2, 2)], [(none, [], [])])
set_option maxRecDepth 1000000 in
theorem sm_794_ok : sv_valid sg sm_794 := sv_main (S := []) (na := 2) (cut := []) (cs := []) (sp := []) (N := 1) sv_nv (by decide +kernel)
-- HungerDays$State.whyNotEat(II)I (r40, [0,3], [0,3])
def sm_795 : sv_SM := (216, 2, 0, [.inr (some 40), .inl (2147483648, 2147483651, 0, 0, 0), .inl (2147483648, 2147483651, 0, 0, 0)], [], [], [(some (.inl (2147483648, 2147483651, 0, 0, 0)), [], [])])
set_option maxRecDepth 1000000 in
theorem sm_795_ok : sv_valid sg sm_795 := sv_main (S := [sm_741]) (na := 3) (cut := []) (cs := []) (sp := []) (N := 1) (sv_cv sm_741_ok sv_nv) (by decide +kernel)
-- HungerDays$State.takePortion(II)V (r40, [0,3], [0,3])
def sm_796 : sv_SM := (212, 1, 0, [.inr (some 40), .inl (2147483648, 2147483651, 0, 0, 0), .inl (2147483648, 2147483651, 0, 0, 0)], [], [(41, 0, 3), (43, 0, 3), (44, 0, 3)], [(none, [], [])])
set_option maxRecDepth 1000000 in
theorem sm_796_ok : sv_valid sg sm_796 := sv_main (S := []) (na := 3) (cut := []) (cs := []) (sp := []) (N := 1) sv_nv (by decide +kernel)
-- HungerDays$State.turnHealth(I)V (r40, [0,3])
def sm_797 : sv_SM := (213, 1, 0, [.inr (some 40), .inl (2147483648, 2147483651, 0, 0, 0)], [], [(40, 2, 2)], [(none, [], [])])
set_option maxRecDepth 1000000 in
theorem sm_797_ok : sv_valid sg sm_797 := sv_main (S := []) (na := 2) (cut := []) (cs := []) (sp := []) (N := 1) sv_nv (by decide +kernel)
-- HungerDays$State.whyNotEat(II)I (r40, [0,4], [0,3])
def sm_798 : sv_SM := (216, 2, 0, [.inr (some 40), .inl (2147483648, 2147483652, 0, 0, 0), .inl (2147483648, 2147483651, 0, 0, 0)], [], [], [(some (.inl (2147483648, 2147483651, 0, 0, 0)), [], [])])
set_option maxRecDepth 1000000 in
theorem sm_798_ok : sv_valid sg sm_798 := sv_main (S := [sm_742]) (na := 3) (cut := []) (cs := []) (sp := []) (N := 1) (sv_cv sm_742_ok sv_nv) (by decide +kernel)
-- HungerDays$State.takePortion(II)V (r40, [0,4], [0,3])
def sm_799 : sv_SM := (212, 1, 0, [.inr (some 40), .inl (2147483648, 2147483652, 0, 0, 0), .inl (2147483648, 2147483651, 0, 0, 0)], [], [(41, 0, 4), (43, 0, 4), (44, 0, 3)], [(none, [], [])])
set_option maxRecDepth 1000000 in
theorem sm_799_ok : sv_valid sg sm_799 := sv_main (S := []) (na := 3) (cut := []) (cs := []) (sp := []) (N := 1) sv_nv (by decide +kernel)
-- HungerDays$State.turnHealth(I)V (r40, [0,4])
def sm_800 : sv_SM := (213, 1, 0, [.inr (some 40), .inl (2147483648, 2147483652, 0, 0, 0)], [], [(40, 2, 2)], [(none, [], [])])
set_option maxRecDepth 1000000 in
theorem sm_800_ok : sv_valid sg sm_800 := sv_main (S := []) (na := 2) (cut := []) (cs := []) (sp := []) (N := 1) sv_nv (by decide +kernel)
-- HungerDays$State.whyNotEat(II)I (r40, [0,5], [0,3])
def sm_801 : sv_SM := (216, 2, 0, [.inr (some 40), .inl (2147483648, 2147483653, 0, 0, 0), .inl (2147483648, 2147483651, 0, 0, 0)], [], [], [(some (.inl (2147483648, 2147483651, 0, 0, 0)), [], [])])
set_option maxRecDepth 1000000 in
theorem sm_801_ok : sv_valid sg sm_801 := sv_main (S := [sm_743]) (na := 3) (cut := []) (cs := []) (sp := []) (N := 1) (sv_cv sm_743_ok sv_nv) (by decide +kernel)
-- HungerDays$State.turnHealth(I)V (r40, [0,5])
def sm_802 : sv_SM := (213, 1, 0, [.inr (some 40), .inl (2147483648, 2147483653, 0, 0, 0)], [], [(40, 2, 2)], [(none, [], [])])
set_option maxRecDepth 1000000 in
theorem sm_802_ok : sv_valid sg sm_802 := sv_main (S := []) (na := 2) (cut := []) (cs := []) (sp := []) (N := 1) sv_nv (by decide +kernel)
-- HungerDays$Draws.drawPersons(LHungerDays$State;)V (r120, r40)
def sm_803 : sv_SM := (173, 3, 0, [.inr (some 120), .inr (some 40)], [], [(40, 2, 2), (41, 0, 5), (43, 0, 5), (44, 0, 3), (120, 0, 0)], [(none, [], [])])
set_option maxRecDepth 1000000 in
theorem sm_803_ok : sv_valid sg sm_803 := sv_main (S := [sm_650, sm_651, sm_801, sm_746, sm_802]) (na := 2) (cut := [2]) (cs := [(2, 1, 1, 5, [some (.inr (some 120)), some (.inr (some 40)), some (.inl (2147483648, 2147483654, 0, 0, 0)), none, none], [], [])]) (sp := []) (N := 2) (sv_cv sm_650_ok (sv_cv sm_651_ok (sv_cv sm_801_ok (sv_cv sm_746_ok (sv_cv sm_802_ok sv_nv))))) (by decide +kernel)
-- HungerDays$State.isDateOfEarlier(II)Z (r40, [MIN,MAX], 0)
def sm_804 : sv_SM := (205, 1, 0, [.inr (some 40), .inl (0, 4294967295, 0, 0, 0), .inl (2147483648, 2147483648, 0, 0, 0)], [], [], [(some (.inl (2147483648, 2147483648, 0, 0, 0)), [], [])])
set_option maxRecDepth 1000000 in
theorem sm_804_ok : sv_valid sg sm_804 := sv_main (S := []) (na := 3) (cut := [2]) (cs := [(2, 1, 1, 0, [some (.inr (some 40)), some (.inl (0, 4294967295, 0, 0, 0)), some (.inl (2147483648, 2147483648, 0, 0, 0)), some (.inl (2147483648, 2147483648, 0, 0, 0))], [], [])]) (sp := []) (N := 2) sv_nv (by decide +kernel)
-- HungerDays$State.isDateOfEarlier(II)Z (r40, [MIN,MAX], [0,1])
def sm_805 : sv_SM := (205, 2, 0, [.inr (some 40), .inl (0, 4294967295, 0, 0, 0), .inl (2147483648, 2147483649, 0, 0, 0)], [], [], [(some (.inl (2147483649, 2147483649, 0, 0, 0)), [.inr (some 40), .inl (0, 4294967295, 0, 0, 0), .inl (2147483649, 2147483649, 0, 0, 0)], []), (some (.inl (2147483648, 2147483648, 0, 0, 0)), [], [])])
set_option maxRecDepth 1000000 in
theorem sm_805_ok : sv_valid sg sm_805 := sv_main (S := [sm_738]) (na := 3) (cut := [2]) (cs := [(2, 1, 1, 7, [some (.inr (some 40)), some (.inl (0, 4294967295, 0, 0, 0)), some (.inl (2147483648, 2147483649, 0, 0, 0)), some (.inl (2147483648, 2147483649, 0, 0, 0))], [], [])]) (sp := []) (N := 2) (sv_cv sm_738_ok sv_nv) (by decide +kernel)
-- HungerDays$State.isDateOfEarlier(II)Z (r40, [MIN,MAX], [0,2])
def sm_806 : sv_SM := (205, 2, 0, [.inr (some 40), .inl (0, 4294967295, 0, 0, 0), .inl (2147483648, 2147483650, 0, 0, 0)], [], [], [(some (.inl (2147483649, 2147483649, 0, 0, 0)), [.inr (some 40), .inl (0, 4294967295, 0, 0, 0), .inl (2147483649, 2147483650, 0, 0, 0)], []), (some (.inl (2147483648, 2147483648, 0, 0, 0)), [], [])])
set_option maxRecDepth 1000000 in
theorem sm_806_ok : sv_valid sg sm_806 := sv_main (S := [sm_738]) (na := 3) (cut := [2]) (cs := [(2, 1, 1, 7, [some (.inr (some 40)), some (.inl (0, 4294967295, 0, 0, 0)), some (.inl (2147483648, 2147483650, 0, 0, 0)), some (.inl (2147483648, 2147483650, 0, 0, 0))], [], [])]) (sp := []) (N := 2) (sv_cv sm_738_ok sv_nv) (by decide +kernel)
-- HungerDays$State.isDateOfEarlier(II)Z (r40, [MIN,MAX], [0,3])
def sm_807 : sv_SM := (205, 2, 0, [.inr (some 40), .inl (0, 4294967295, 0, 0, 0), .inl (2147483648, 2147483651, 0, 0, 0)], [], [], [(some (.inl (2147483649, 2147483649, 0, 0, 0)), [.inr (some 40), .inl (0, 4294967295, 0, 0, 0), .inl (2147483649, 2147483651, 0, 0, 0)], []), (some (.inl (2147483648, 2147483648, 0, 0, 0)), [], [])])
set_option maxRecDepth 1000000 in
theorem sm_807_ok : sv_valid sg sm_807 := sv_main (S := [sm_738]) (na := 3) (cut := [2]) (cs := [(2, 1, 1, 7, [some (.inr (some 40)), some (.inl (0, 4294967295, 0, 0, 0)), some (.inl (2147483648, 2147483651, 0, 0, 0)), some (.inl (2147483648, 2147483651, 0, 0, 0))], [], [])]) (sp := []) (N := 2) (sv_cv sm_738_ok sv_nv) (by decide +kernel)
-- HungerDays$State.isDateOfEarlier(II)Z (r40, [MIN,MAX], [0,4])
def sm_808 : sv_SM := (205, 2, 0, [.inr (some 40), .inl (0, 4294967295, 0, 0, 0), .inl (2147483648, 2147483652, 0, 0, 0)], [], [], [(some (.inl (2147483649, 2147483649, 0, 0, 0)), [.inr (some 40), .inl (0, 4294967295, 0, 0, 0), .inl (2147483649, 2147483652, 0, 0, 0)], []), (some (.inl (2147483648, 2147483648, 0, 0, 0)), [], [])])
set_option maxRecDepth 1000000 in
theorem sm_808_ok : sv_valid sg sm_808 := sv_main (S := [sm_738]) (na := 3) (cut := [2]) (cs := [(2, 1, 1, 7, [some (.inr (some 40)), some (.inl (0, 4294967295, 0, 0, 0)), some (.inl (2147483648, 2147483652, 0, 0, 0)), some (.inl (2147483648, 2147483652, 0, 0, 0))], [], [])]) (sp := []) (N := 2) (sv_cv sm_738_ok sv_nv) (by decide +kernel)
-- HungerDays$State.isDateOfEarlier(II)Z (r40, [MIN,MAX], [0,5])
def sm_809 : sv_SM := (205, 2, 0, [.inr (some 40), .inl (0, 4294967295, 0, 0, 0), .inl (2147483648, 2147483653, 0, 0, 0)], [], [], [(some (.inl (2147483649, 2147483649, 0, 0, 0)), [.inr (some 40), .inl (0, 4294967295, 0, 0, 0), .inl (2147483649, 2147483653, 0, 0, 0)], []), (some (.inl (2147483648, 2147483648, 0, 0, 0)), [], [])])
set_option maxRecDepth 1000000 in
theorem sm_809_ok : sv_valid sg sm_809 := sv_main (S := [sm_738]) (na := 3) (cut := [2]) (cs := [(2, 1, 1, 7, [some (.inr (some 40)), some (.inl (0, 4294967295, 0, 0, 0)), some (.inl (2147483648, 2147483653, 0, 0, 0)), some (.inl (2147483648, 2147483653, 0, 0, 0))], [], [])]) (sp := []) (N := 2) (sv_cv sm_738_ok sv_nv) (by decide +kernel)
-- HungerDays$State.unlikeDates(I)I (r40, [MIN,MAX])
def sm_810 : sv_SM := (214, 3, 0, [.inr (some 40), .inl (0, 4294967295, 0, 0, 0)], [], [], [(some (.inl (0, 4294967295, 0, 0, 0)), [], [])])
set_option maxRecDepth 1000000 in
theorem sm_810_ok : sv_valid sg sm_810 := sv_main (S := [sm_809]) (na := 2) (cut := [4]) (cs := [(4, 1, 1, 7, [some (.inr (some 40)), some (.inl (0, 4294967295, 0, 0, 0)), some (.inl (0, 4294967295, 0, 0, 0)), some (.inl (2147483648, 2147483654, 0, 0, 0))], [], [])]) (sp := []) (N := 2) (sv_cv sm_809_ok sv_nv) (by decide +kernel)
-- HungerDays$State.whyNotMeet(I)I (r40, 0)
def sm_811 : sv_SM := (217, 4, 0, [.inr (some 40), .inl (2147483648, 2147483648, 0, 0, 0)], [], [], [(some (.inl (2147483648, 2147483651, 0, 0, 0)), [], [])])
set_option maxRecDepth 1000000 in
theorem sm_811_ok : sv_valid sg sm_811 := sv_main (S := [sm_810]) (na := 2) (cut := []) (cs := []) (sp := []) (N := 1) (sv_cv sm_810_ok sv_nv) (by decide +kernel)
-- HungerDays$State.hold(I)V (r40, 0)
def sm_812 : sv_SM := (203, 1, 0, [.inr (some 40), .inl (2147483648, 2147483648, 0, 0, 0)], [], [(45, 0, 0)], [(none, [], [])])
set_option maxRecDepth 1000000 in
theorem sm_812_ok : sv_valid sg sm_812 := sv_main (S := []) (na := 2) (cut := []) (cs := []) (sp := []) (N := 1) sv_nv (by decide +kernel)
-- HungerDays$State.whyNotMeet(I)I (r40, [0,1])
def sm_813 : sv_SM := (217, 4, 0, [.inr (some 40), .inl (2147483648, 2147483649, 0, 0, 0)], [], [], [(some (.inl (2147483648, 2147483651, 0, 0, 0)), [], [])])
set_option maxRecDepth 1000000 in
theorem sm_813_ok : sv_valid sg sm_813 := sv_main (S := [sm_810]) (na := 2) (cut := []) (cs := []) (sp := []) (N := 1) (sv_cv sm_810_ok sv_nv) (by decide +kernel)
-- HungerDays$State.hold(I)V (r40, [0,1])
def sm_814 : sv_SM := (203, 1, 0, [.inr (some 40), .inl (2147483648, 2147483649, 0, 0, 0)], [], [(45, 0, 1)], [(none, [], [])])
set_option maxRecDepth 1000000 in
theorem sm_814_ok : sv_valid sg sm_814 := sv_main (S := []) (na := 2) (cut := []) (cs := []) (sp := []) (N := 1) sv_nv (by decide +kernel)
-- HungerDays$State.whyNotMeet(I)I (r40, [0,2])
def sm_815 : sv_SM := (217, 4, 0, [.inr (some 40), .inl (2147483648, 2147483650, 0, 0, 0)], [], [], [(some (.inl (2147483648, 2147483651, 0, 0, 0)), [], [])])
set_option maxRecDepth 1000000 in
theorem sm_815_ok : sv_valid sg sm_815 := sv_main (S := [sm_810]) (na := 2) (cut := []) (cs := []) (sp := []) (N := 1) (sv_cv sm_810_ok sv_nv) (by decide +kernel)
-- HungerDays$State.hold(I)V (r40, [0,2])
def sm_816 : sv_SM := (203, 1, 0, [.inr (some 40), .inl (2147483648, 2147483650, 0, 0, 0)], [], [(45, 0, 2)], [(none, [], [])])
set_option maxRecDepth 1000000 in
theorem sm_816_ok : sv_valid sg sm_816 := sv_main (S := []) (na := 2) (cut := []) (cs := []) (sp := []) (N := 1) sv_nv (by decide +kernel)
-- HungerDays$State.whyNotMeet(I)I (r40, [0,3])
def sm_817 : sv_SM := (217, 4, 0, [.inr (some 40), .inl (2147483648, 2147483651, 0, 0, 0)], [], [], [(some (.inl (2147483648, 2147483651, 0, 0, 0)), [], [])])
set_option maxRecDepth 1000000 in
theorem sm_817_ok : sv_valid sg sm_817 := sv_main (S := [sm_810]) (na := 2) (cut := []) (cs := []) (sp := []) (N := 1) (sv_cv sm_810_ok sv_nv) (by decide +kernel)
-- HungerDays$State.hold(I)V (r40, [0,3])
def sm_818 : sv_SM := (203, 1, 0, [.inr (some 40), .inl (2147483648, 2147483651, 0, 0, 0)], [], [(45, 0, 3)], [(none, [], [])])
set_option maxRecDepth 1000000 in
theorem sm_818_ok : sv_valid sg sm_818 := sv_main (S := []) (na := 2) (cut := []) (cs := []) (sp := []) (N := 1) sv_nv (by decide +kernel)
-- HungerDays$State.whyNotMeet(I)I (r40, [0,4])
def sm_819 : sv_SM := (217, 4, 0, [.inr (some 40), .inl (2147483648, 2147483652, 0, 0, 0)], [], [], [(some (.inl (2147483648, 2147483651, 0, 0, 0)), [], [])])
set_option maxRecDepth 1000000 in
theorem sm_819_ok : sv_valid sg sm_819 := sv_main (S := [sm_810]) (na := 2) (cut := []) (cs := []) (sp := []) (N := 1) (sv_cv sm_810_ok sv_nv) (by decide +kernel)
-- HungerDays$State.hold(I)V (r40, [0,4])
def sm_820 : sv_SM := (203, 1, 0, [.inr (some 40), .inl (2147483648, 2147483652, 0, 0, 0)], [], [(45, 0, 4)], [(none, [], [])])
set_option maxRecDepth 1000000 in
theorem sm_820_ok : sv_valid sg sm_820 := sv_main (S := []) (na := 2) (cut := []) (cs := []) (sp := []) (N := 1) sv_nv (by decide +kernel)
-- HungerDays$State.whyNotMeet(I)I (r40, [0,5])
def sm_821 : sv_SM := (217, 4, 0, [.inr (some 40), .inl (2147483648, 2147483653, 0, 0, 0)], [], [], [(some (.inl (2147483648, 2147483651, 0, 0, 0)), [], [])])
set_option maxRecDepth 1000000 in
theorem sm_821_ok : sv_valid sg sm_821 := sv_main (S := [sm_810]) (na := 2) (cut := []) (cs := []) (sp := []) (N := 1) (sv_cv sm_810_ok sv_nv) (by decide +kernel)
-- HungerDays$State.hold(I)V (r40, [0,5])
def sm_822 : sv_SM := (203, 1, 0, [.inr (some 40), .inl (2147483648, 2147483653, 0, 0, 0)], [], [(45, 0, 5)], [(none, [], [])])
set_option maxRecDepth 1000000 in
theorem sm_822_ok : sv_valid sg sm_822 := sv_main (S := []) (na := 2) (cut := []) (cs := []) (sp := []) (N := 1) sv_nv (by decide +kernel)
-- HungerDays$Draws.holdMeetings(LHungerDays$State;)V (r40)
def sm_823 : sv_SM := (174, 5, 0, [.inr (some 40)], [], [(45, 0, 5)], [(none, [], [])])
set_option maxRecDepth 1000000 in
theorem sm_823_ok : sv_valid sg sm_823 := sv_main (S := [sm_821, sm_822]) (na := 1) (cut := [2]) (cs := [(2, 1, 1, 3, [some (.inr (some 40)), some (.inl (2147483648, 2147483654, 0, 0, 0))], [], [])]) (sp := []) (N := 2) (sv_cv sm_821_ok (sv_cv sm_822_ok sv_nv)) (by decide +kernel)
-- HungerDays$Draws.passHours(LHungerDays$State;II)I (r120, r40, 20, [MIN,MAX])
def sm_824 : sv_SM := (175, 6, 0, [.inr (some 120), .inr (some 40), .inl (2147483668, 2147483668, 0, 0, 0), .inl (0, 4294967295, 0, 0, 0)], [], [(40, 1, 3), (41, 0, 5), (42, 0, 5), (43, 0, 5), (44, 0, 3), (45, 0, 5), (46, 0, 9), (120, 0, 0)], [(some (.inl (2147483648, 2147483668, 0, 0, 0)), [], [])])
set_option maxRecDepth 1000000 in
theorem sm_824_ok : sv_valid sg sm_824 := sv_main (S := [sm_748, sm_803, sm_823, sm_769]) (na := 4) (cut := [8]) (cs := [(8, 1, 1, 9, [some (.inr (some 120)), some (.inr (some 40)), some (.inl (2147483668, 2147483668, 0, 0, 0)), some (.inl (0, 4294967295, 0, 0, 0)), some (.inl (2147483648, 2147483668, 0, 0, 0))], [], [])]) (sp := []) (N := 2) (sv_cv sm_748_ok (sv_cv sm_803_ok (sv_cv sm_823_ok (sv_cv sm_769_ok sv_nv)))) (by decide +kernel)
-- HungerDays.odds(III)I (r0, [MIN,MAX], [MIN,MAX], [MIN,MAX])
def sm_825 : sv_SM := (31, 7, 0, [.inr (some 0), .inl (0, 4294967295, 0, 0, 0), .inl (0, 4294967295, 0, 0, 0), .inl (0, 4294967295, 0, 0, 0)], [], [(40, 1, 3), (41, 0, 15), (42, 0, 15), (43, 0, 15), (44, 0, 15), (45, 0, 15), (46, 0, 15), (120, 0, 0)], [(some (.inl (2147483647, 2147483647, 0, 0, 0)), [], []), (some (.inl (0, 4294967295, 0, 0, 0)), [.inr (some 0), .inl (2147483648, 2147483653, 0, 0, 0), .inl (2147483649, 2147483678, 0, 0, 0)], [])])
set_option maxRecDepth 1000000 in
theorem sm_825_ok : sv_valid sg sm_825 := sv_main (S := [sm_776, sm_736, sm_824]) (na := 4) (cut := [37]) (cs := [(37, 1, 1, 11, [some (.inr (some 0)), some (.inl (2147483648, 2147483653, 0, 0, 0)), some (.inl (2147483649, 2147483678, 0, 0, 0)), some (.inl (0, 4294967295, 0, 0, 0)), some (.inl (0, 4294967295, 0, 0, 0)), some (.inl (2147483648, 2147483678, 0, 0, 0))], [], [])]) (sp := []) (N := 2) (sv_cv sm_776_ok (sv_cv sm_736_ok (sv_cv sm_824_ok sv_nv))) (by decide +kernel)
-- HungerDays$State.personsOf(I)I (r33, [0,199])
def sm_826 : sv_SM := (80, 2, 0, [.inr (some 33), .inl (2147483648, 2147483847, 0, 0, 0)], [], [], [(some (.inl (0, 4294967295, 0, 0, 0)), [], [])])
set_option maxRecDepth 1000000 in
theorem sm_826_ok : sv_valid sg sm_826 := sv_main (S := [sm_629]) (na := 2) (cut := [4]) (cs := [(4, 1, 1, 7, [some (.inr (some 33)), some (.inl (2147483648, 2147483847, 0, 0, 0)), some (.inl (0, 4294967295, 0, 0, 0)), some (.inl (2147483648, 2147483654, 0, 0, 0))], [], [])]) (sp := []) (N := 2) (sv_cv sm_629_ok sv_nv) (by decide +kernel)
-- HungerDays.on(I)I (r0, [MIN,MAX])
def sm_827 : sv_SM := (32, 3, 0, [.inr (some 0), .inl (0, 4294967295, 0, 0, 0)], [], [], [(some (.inl (2147483647, 2147483647, 0, 0, 0)), [], []), (some (.inl (0, 4294967295, 0, 0, 0)), [.inr (some 0), .inl (2147483648, 2147483847, 0, 0, 0)], [])])
set_option maxRecDepth 1000000 in
theorem sm_827_ok : sv_valid sg sm_827 := sv_main (S := [sm_771, sm_826]) (na := 2) (cut := []) (cs := []) (sp := []) (N := 1) (sv_cv sm_771_ok (sv_cv sm_826_ok sv_nv)) (by decide +kernel)
-- HungerDays.isDebt(I)Z (r0, [MIN,MAX])
def sm_828 : sv_SM := (19, 1, 0, [.inr (some 0), .inl (0, 4294967295, 0, 0, 0)], [], [], [(some (.inl (2147483649, 2147483649, 0, 0, 0)), [.inr (some 0), .inl (2147483648, 2147483657, 0, 0, 0)], []), (some (.inl (2147483648, 2147483648, 0, 0, 0)), [], [])])
set_option maxRecDepth 1000000 in
theorem sm_828_ok : sv_valid sg sm_828 := sv_main (S := []) (na := 2) (cut := []) (cs := []) (sp := []) (N := 1) sv_nv (by decide +kernel)
-- HungerDays.paid(I)I (r0, [MIN,MAX])
def sm_829 : sv_SM := (34, 4, 0, [.inr (some 0), .inl (0, 4294967295, 0, 0, 0)], [], [(40, 1, 3), (41, 0, 15), (42, 0, 15), (43, 0, 15), (44, 0, 15), (45, 0, 15), (46, 0, 15)], [(some (.inl (2147483647, 2147483647, 0, 0, 0)), [], []), (some (.inl (0, 4294967295, 0, 0, 0)), [.inr (some 0), .inl (2147483648, 2147483657, 0, 0, 0)], [])])
set_option maxRecDepth 1000000 in
theorem sm_829_ok : sv_valid sg sm_829 := sv_main (S := [sm_828, sm_736, sm_748, sm_769]) (na := 2) (cut := [36]) (cs := [(36, 1, 1, 5, [some (.inr (some 0)), some (.inl (2147483648, 2147483657, 0, 0, 0)), some (.inl (2147483648, 2147484248, 0, 0, 0))], [], [])]) (sp := []) (N := 2) (sv_cv sm_828_ok (sv_cv sm_736_ok (sv_cv sm_748_ok (sv_cv sm_769_ok sv_nv)))) (by decide +kernel)
-- HungerDays$Table.plateOf(I)I (r121, [0,5])
def sm_830 : sv_SM := (224, 1, 0, [.inr (some 121), .inl (2147483648, 2147483653, 0, 0, 0)], [], [], [(some (.inl (0, 4294967295, 0, 0, 0)), [], []), (some (.inl (2147483647, 2147483647, 0, 0, 0)), [], [])])
set_option maxRecDepth 1000000 in
theorem sm_830_ok : sv_valid sg sm_830 := sv_main (S := []) (na := 2) (cut := []) (cs := []) (sp := []) (N := 1) sv_nv (by decide +kernel)
-- HungerDays.plate(I)I (r0, [MIN,MAX])
def sm_831 : sv_SM := (35, 2, 0, [.inr (some 0), .inl (0, 4294967295, 0, 0, 0)], [], [], [(some (.inl (2147483647, 2147483647, 0, 0, 0)), [], []), (some (.inl (0, 4294967295, 0, 0, 0)), [.inr (some 0), .inl (2147483648, 2147483653, 0, 0, 0)], [])])
set_option maxRecDepth 1000000 in
theorem sm_831_ok : sv_valid sg sm_831 := sv_main (S := [sm_579, sm_830]) (na := 2) (cut := []) (cs := []) (sp := []) (N := 1) (sv_cv sm_579_ok (sv_cv sm_830_ok sv_nv)) (by decide +kernel)
-- HungerDays$Valley.copyFrom(LHungerDays$Valley;)V (r4, r158)
def sm_832 : sv_SM := (85, 1, 0, [.inr (some 4), .inr (some 158)], [], [(4, 0, 6), (5, 0, 15), (6, 0, 15), (7, 0, 15), (8, 0, 15), (9, 0, 15), (10, 0, 15), (11, 0, 15), (12, 0, 15), (13, 0, 15), (14, 0, 15), (15, 0, 15), (16, 0, 15), (17, 0, 15)], [(none, [], [])])
set_option maxRecDepth 1000000 in
theorem sm_832_ok : sv_valid sg sm_832 := sv_main (S := []) (na := 2) (cut := []) (cs := []) (sp := []) (N := 1) sv_nv (by decide +kernel)
-- HungerDays$State.copyFrom(LHungerDays$State;)V (r33, r172)
def sm_833 : sv_SM := (72, 1, 0, [.inr (some 33), .inr (some 172)], [], [(33, 1, 3), (34, 0, 15), (35, 0, 15), (36, 0, 15), (37, 0, 15), (38, 0, 15), (39, 0, 15)], [(none, [], [])])
set_option maxRecDepth 1000000 in
theorem sm_833_ok : sv_valid sg sm_833 := sv_main (S := []) (na := 2) (cut := []) (cs := []) (sp := []) (N := 1) sv_nv (by decide +kernel)
-- HungerDays$Sentence.copyFrom(LHungerDays$Sentence;)V (r106, r179)
def sm_834 : sv_SM := (65, 1, 0, [.inr (some 106), .inr (some 179)], [], [(106, 0, 1), (107, 0, 47), (108, 0, 47), (109, 0, 47)], [(none, [], [])])
set_option maxRecDepth 1000000 in
theorem sm_834_ok : sv_valid sg sm_834 := sv_main (S := []) (na := 2) (cut := []) (cs := []) (sp := []) (N := 1) sv_nv (by decide +kernel)
-- HungerDays$History.forget()V (r47)
def sm_835 : sv_SM := (53, 1, 0, [.inr (some 47)], [], [(47, 2, 2)], [(none, [], [])])
set_option maxRecDepth 1000000 in
theorem sm_835_ok : sv_valid sg sm_835 := sv_main (S := []) (na := 1) (cut := []) (cs := []) (sp := []) (N := 1) sv_nv (by decide +kernel)
-- HungerDays$Valley.copyFrom(LHungerDays$Valley;)V (r4, r131)
def sm_836 : sv_SM := (85, 1, 0, [.inr (some 4), .inr (some 131)], [], [(4, 0, 6), (5, 0, 15), (6, 0, 15), (7, 0, 15), (8, 0, 15), (9, 0, 15), (10, 0, 15), (11, 0, 15), (12, 0, 15), (13, 0, 15), (14, 0, 15), (15, 0, 15), (16, 0, 15), (17, 0, 15)], [(none, [], [])])
set_option maxRecDepth 1000000 in
theorem sm_836_ok : sv_valid sg sm_836 := sv_main (S := []) (na := 2) (cut := []) (cs := []) (sp := []) (N := 1) sv_nv (by decide +kernel)
-- HungerDays$State.copyFrom(LHungerDays$State;)V (r33, r145)
def sm_837 : sv_SM := (72, 1, 0, [.inr (some 33), .inr (some 145)], [], [(33, 1, 3), (34, 0, 15), (35, 0, 15), (36, 0, 15), (37, 0, 15), (38, 0, 15), (39, 0, 15)], [(none, [], [])])
set_option maxRecDepth 1000000 in
theorem sm_837_ok : sv_valid sg sm_837 := sv_main (S := []) (na := 2) (cut := []) (cs := []) (sp := []) (N := 1) sv_nv (by decide +kernel)
-- HungerDays$Sentence.copyFrom(LHungerDays$Sentence;)V (r106, r152)
def sm_838 : sv_SM := (65, 1, 0, [.inr (some 106), .inr (some 152)], [], [(106, 0, 1), (107, 0, 47), (108, 0, 47), (109, 0, 47)], [(none, [], [])])
set_option maxRecDepth 1000000 in
theorem sm_838_ok : sv_valid sg sm_838 := sv_main (S := []) (na := 2) (cut := []) (cs := []) (sp := []) (N := 1) sv_nv (by decide +kernel)
-- HungerDays.restore(I)Z (r0, [MIN,MAX])
def sm_839 : sv_SM := (37, 2, 0, [.inr (some 0), .inl (0, 4294967295, 0, 0, 0)], [], [(4, 0, 6), (5, 0, 15), (6, 0, 15), (7, 0, 15), (8, 0, 15), (9, 0, 15), (10, 0, 15), (11, 0, 15), (12, 0, 15), (13, 0, 15), (14, 0, 15), (15, 0, 15), (16, 0, 15), (17, 0, 15), (33, 1, 3), (34, 0, 15), (35, 0, 15), (36, 0, 15), (37, 0, 15), (38, 0, 15), (39, 0, 15), (47, 2, 2), (106, 0, 1), (107, 0, 47), (108, 0, 47), (109, 0, 47)], [(some (.inl (2147483648, 2147483648, 0, 0, 0)), [], []), (some (.inl (2147483649, 2147483649, 0, 0, 0)), [.inr (some 0), .inl (2147483648, 2147483649, 0, 0, 0)], [])])
set_option maxRecDepth 1000000 in
theorem sm_839_ok : sv_valid sg sm_839 := sv_main (S := [sm_727, sm_832, sm_833, sm_834, sm_835, sm_836, sm_837, sm_838]) (na := 2) (cut := []) (cs := []) (sp := []) (N := 1) (sv_cv sm_727_ok (sv_cv sm_832_ok (sv_cv sm_833_ok (sv_cv sm_834_ok (sv_cv sm_835_ok (sv_cv sm_836_ok (sv_cv sm_837_ok (sv_cv sm_838_ok sv_nv)))))))) (by decide +kernel)
-- HungerDays$Sentence.pop()I (r106)
def sm_840 : sv_SM := (196, 1, 0, [.inr (some 106)], [(1736710, 2147483648, 2147483688, 0, 0)], [(106, 6, 6)], [(some (.inl (0, 4294967295, 0, 0, 0)), [], [(1736710, 2147483648, 2147483687, 0, 0)])])
set_option maxRecDepth 1000000 in
theorem sm_840_ok : sv_valid sg sm_840 := sv_main (S := []) (na := 1) (cut := []) (cs := []) (sp := []) (N := 1) sv_nv (by decide +kernel)
-- HungerDays$Sentence.push(I)V (r106, [MIN,MAX])
def sm_841 : sv_SM := (197, 1, 0, [.inr (some 106), .inl (0, 4294967295, 0, 0, 0)], [(1736710, 2147483648, 2147483688, 0, 0)], [(106, 6, 6), (110, 0, 39)], [(none, [], [(1736710, 2147483649, 2147483688, 0, 0)])])
set_option maxRecDepth 1000000 in
theorem sm_841_ok : sv_valid sg sm_841 := sv_main (S := []) (na := 2) (cut := []) (cs := []) (sp := []) (N := 1) sv_nv (by decide +kernel)
-- HungerDays$Sentence.compares(III)Z (0, [MIN,MAX], [MIN,MAX])
def sm_842 : sv_SM := (192, 1, 0, [.inl (2147483648, 2147483648, 0, 0, 0), .inl (0, 4294967295, 0, 0, 0), .inl (0, 4294967295, 0, 0, 0)], [], [], [(some (.inl (2147483649, 2147483649, 0, 0, 0)), [], []), (some (.inl (2147483648, 2147483648, 0, 0, 0)), [], [])])
set_option maxRecDepth 1000000 in
theorem sm_842_ok : sv_valid sg sm_842 := sv_main (S := []) (na := 3) (cut := []) (cs := []) (sp := []) (N := 1) sv_nv (by decide +kernel)
-- HungerDays$Sentence.compares(III)Z ([MIN,MAX], [MIN,MAX], [MIN,MAX])
def sm_843 : sv_SM := (192, 1, 0, [.inl (0, 4294967295, 0, 0, 0), .inl (0, 4294967295, 0, 0, 0), .inl (0, 4294967295, 0, 0, 0)], [], [], [(some (.inl (2147483649, 2147483649, 0, 0, 0)), [], []), (some (.inl (2147483648, 2147483648, 0, 0, 0)), [], [])])
set_option maxRecDepth 1000000 in
theorem sm_843_ok : sv_valid sg sm_843 := sv_main (S := []) (na := 3) (cut := []) (cs := []) (sp := []) (N := 1) sv_nv (by decide +kernel)
-- HungerDays$Reader.open(II)V (r2, [0,940], 200)
def sm_844 : sv_SM := (62, 3, 0, [.inr (some 2), .inl (2147483648, 2147484588, 0, 0, 0), .inl (2147483848, 2147483848, 0, 0, 0)], [], [(2, 2, 12)], [(none, [], [])])
set_option maxRecDepth 1000000 in
theorem sm_844_ok : sv_valid sg sm_844 := sv_main (S := [sm_605]) (na := 3) (cut := []) (cs := []) (sp := []) (N := 1) (sv_cv sm_605_ok sv_nv) (by decide +kernel)
-- HungerDays.openTape(I)V (r0, 200)
def sm_845 : sv_SM := (33, 4, 0, [.inr (some 0), .inl (2147483848, 2147483848, 0, 0, 0)], [], [(0, 1, 1), (2, 2, 12)], [(none, [], [])])
set_option maxRecDepth 1000000 in
theorem sm_845_ok : sv_valid sg sm_845 := sv_main (S := [sm_844]) (na := 2) (cut := []) (cs := []) (sp := []) (N := 1) (sv_cv sm_844_ok sv_nv) (by decide +kernel)
-- HungerDays$Sentence.forget()V (r111)
def sm_846 : sv_SM := (66, 1, 0, [.inr (some 111)], [], [(111, 0, 1)], [(none, [], [])])
set_option maxRecDepth 1000000 in
theorem sm_846_ok : sv_valid sg sm_846 := sv_main (S := []) (na := 1) (cut := []) (cs := []) (sp := []) (N := 1) sv_nv (by decide +kernel)
-- HungerDays$Reader.isSign(I)Z (r2, 40)
def sm_847 : sv_SM := (60, 1, 0, [.inr (some 2), .inl (2147483688, 2147483688, 0, 0, 0)], [], [], [(some (.inl (2147483649, 2147483649, 0, 0, 0)), [], []), (some (.inl (2147483648, 2147483648, 0, 0, 0)), [], [])])
set_option maxRecDepth 1000000 in
theorem sm_847_ok : sv_valid sg sm_847 := sv_main (S := []) (na := 2) (cut := []) (cs := []) (sp := []) (N := 1) sv_nv (by decide +kernel)
-- HungerDays$Sentence.addStep(III)Z (r111, 17, 0, -1)
def sm_848 : sv_SM := (191, 1, 0, [.inr (some 111), .inl (2147483665, 2147483665, 0, 0, 0), .inl (2147483648, 2147483648, 0, 0, 0), .inl (2147483647, 2147483647, 0, 0, 0)], [(1818625, 2147483648, 2147483688, 0, 0)], [], [(some (.inl (2147483648, 2147483648, 0, 0, 0)), [], [])])
set_option maxRecDepth 1000000 in
theorem sm_848_ok : sv_valid sg sm_848 := sv_main (S := []) (na := 4) (cut := []) (cs := []) (sp := []) (N := 1) sv_nv (by decide +kernel)
-- HungerDays$Sentence.addStep(III)Z (r111, 17, 0, [0,5])
def sm_849 : sv_SM := (191, 1, 0, [.inr (some 111), .inl (2147483665, 2147483665, 0, 0, 0), .inl (2147483648, 2147483648, 0, 0, 0), .inl (2147483648, 2147483653, 0, 0, 0)], [(1818625, 2147483648, 2147483688, 0, 0)], [(111, 1, 1), (112, 0, 39), (113, 0, 39), (114, 0, 39)], [(some (.inl (2147483648, 2147483648, 0, 0, 0)), [], [(1818625, 2147483688, 2147483688, 0, 0)]), (some (.inl (2147483649, 2147483649, 0, 0, 0)), [], [(1818625, 2147483649, 2147483688, 0, 0)])])
set_option maxRecDepth 1000000 in
theorem sm_849_ok : sv_valid sg sm_849 := sv_main (S := []) (na := 4) (cut := []) (cs := []) (sp := []) (N := 1) sv_nv (by decide +kernel)
-- HungerDays$Reader.takeNamed(LHungerDays$Valley;I)I (r2, r4, 0)
def sm_850 : sv_SM := (188, 3, 0, [.inr (some 2), .inr (some 4), .inl (2147483648, 2147483648, 0, 0, 0)], [], [(2, 4, 12)], [(some (.inl (2147483648, 2147483653, 0, 0, 0)), [], []), (some (.inl (2147483647, 2147483647, 0, 0, 0)), [], [])])
set_option maxRecDepth 1000000 in
theorem sm_850_ok : sv_valid sg sm_850 := sv_main (S := [sm_614, sm_605]) (na := 3) (cut := []) (cs := []) (sp := []) (N := 1) (sv_cv sm_614_ok (sv_cv sm_605_ok sv_nv)) (by decide +kernel)
-- HungerDays$Sentence.addStep(III)Z (r111, 16, 0, -1)
def sm_851 : sv_SM := (191, 1, 0, [.inr (some 111), .inl (2147483664, 2147483664, 0, 0, 0), .inl (2147483648, 2147483648, 0, 0, 0), .inl (2147483647, 2147483647, 0, 0, 0)], [(1818625, 2147483648, 2147483688, 0, 0)], [], [(some (.inl (2147483648, 2147483648, 0, 0, 0)), [], [])])
set_option maxRecDepth 1000000 in
theorem sm_851_ok : sv_valid sg sm_851 := sv_main (S := []) (na := 4) (cut := []) (cs := []) (sp := []) (N := 1) sv_nv (by decide +kernel)
-- HungerDays$Sentence.addStep(III)Z (r111, 16, 0, [0,5])
def sm_852 : sv_SM := (191, 1, 0, [.inr (some 111), .inl (2147483664, 2147483664, 0, 0, 0), .inl (2147483648, 2147483648, 0, 0, 0), .inl (2147483648, 2147483653, 0, 0, 0)], [(1818625, 2147483648, 2147483688, 0, 0)], [(111, 1, 1), (112, 0, 39), (113, 0, 39), (114, 0, 39)], [(some (.inl (2147483648, 2147483648, 0, 0, 0)), [], [(1818625, 2147483688, 2147483688, 0, 0)]), (some (.inl (2147483649, 2147483649, 0, 0, 0)), [], [(1818625, 2147483649, 2147483688, 0, 0)])])
set_option maxRecDepth 1000000 in
theorem sm_852_ok : sv_valid sg sm_852 := sv_main (S := []) (na := 4) (cut := []) (cs := []) (sp := []) (N := 1) sv_nv (by decide +kernel)
-- HungerDays$Sentence.addStep(III)Z (r111, 15, 0, 0)
def sm_853 : sv_SM := (191, 1, 0, [.inr (some 111), .inl (2147483663, 2147483663, 0, 0, 0), .inl (2147483648, 2147483648, 0, 0, 0), .inl (2147483648, 2147483648, 0, 0, 0)], [(1818625, 2147483648, 2147483688, 0, 0)], [(111, 1, 1), (112, 0, 39), (113, 0, 39), (114, 0, 39)], [(some (.inl (2147483648, 2147483648, 0, 0, 0)), [], [(1818625, 2147483688, 2147483688, 0, 0)]), (some (.inl (2147483649, 2147483649, 0, 0, 0)), [], [(1818625, 2147483649, 2147483688, 0, 0)])])
set_option maxRecDepth 1000000 in
theorem sm_853_ok : sv_valid sg sm_853 := sv_main (S := []) (na := 4) (cut := []) (cs := []) (sp := []) (N := 1) sv_nv (by decide +kernel)
-- HungerDays$Sentence.addStep(III)Z (r111, 14, 0, 0)
def sm_854 : sv_SM := (191, 1, 0, [.inr (some 111), .inl (2147483662, 2147483662, 0, 0, 0), .inl (2147483648, 2147483648, 0, 0, 0), .inl (2147483648, 2147483648, 0, 0, 0)], [(1818625, 2147483648, 2147483688, 0, 0)], [(111, 1, 1), (112, 0, 39), (113, 0, 39), (114, 0, 39)], [(some (.inl (2147483648, 2147483648, 0, 0, 0)), [], [(1818625, 2147483688, 2147483688, 0, 0)]), (some (.inl (2147483649, 2147483649, 0, 0, 0)), [], [(1818625, 2147483649, 2147483688, 0, 0)])])
set_option maxRecDepth 1000000 in
theorem sm_854_ok : sv_valid sg sm_854 := sv_main (S := []) (na := 4) (cut := []) (cs := []) (sp := []) (N := 1) sv_nv (by decide +kernel)
-- HungerDays$Sentence.readOne(LHungerDays$Reader;LHungerDays$Valley;I)Z (r111, r2, r4, 9)
def sm_855 : sv_SM := (69, 2, 0, [.inr (some 111), .inr (some 2), .inr (some 4), .inl (2147483657, 2147483657, 0, 0, 0)], [], [(2, 11, 12)], [(some (.inl (2147483648, 2147483648, 0, 0, 0)), [], [])])
set_option maxRecDepth 1000000 in
theorem sm_855_ok : sv_valid sg sm_855 := sv_main (S := [sm_847, sm_615, sm_608]) (na := 4) (cut := []) (cs := []) (sp := []) (N := 1) (sv_cv sm_847_ok (sv_cv sm_615_ok (sv_cv sm_608_ok sv_nv))) (by decide +kernel)
-- HungerDays$Reader.isSign(I)Z (r2, 60)
def sm_856 : sv_SM := (60, 1, 0, [.inr (some 2), .inl (2147483708, 2147483708, 0, 0, 0)], [], [], [(some (.inl (2147483649, 2147483649, 0, 0, 0)), [], []), (some (.inl (2147483648, 2147483648, 0, 0, 0)), [], [])])
set_option maxRecDepth 1000000 in
theorem sm_856_ok : sv_valid sg sm_856 := sv_main (S := []) (na := 2) (cut := []) (cs := []) (sp := []) (N := 1) sv_nv (by decide +kernel)
-- HungerDays$Reader.isSign(I)Z (r2, 61)
def sm_857 : sv_SM := (60, 1, 0, [.inr (some 2), .inl (2147483709, 2147483709, 0, 0, 0)], [], [], [(some (.inl (2147483649, 2147483649, 0, 0, 0)), [], []), (some (.inl (2147483648, 2147483648, 0, 0, 0)), [], [])])
set_option maxRecDepth 1000000 in
theorem sm_857_ok : sv_valid sg sm_857 := sv_main (S := []) (na := 2) (cut := []) (cs := []) (sp := []) (N := 1) sv_nv (by decide +kernel)
-- HungerDays$Reader.isSign(I)Z (r2, 62)
def sm_858 : sv_SM := (60, 1, 0, [.inr (some 2), .inl (2147483710, 2147483710, 0, 0, 0)], [], [], [(some (.inl (2147483649, 2147483649, 0, 0, 0)), [], []), (some (.inl (2147483648, 2147483648, 0, 0, 0)), [], [])])
set_option maxRecDepth 1000000 in
theorem sm_858_ok : sv_valid sg sm_858 := sv_main (S := []) (na := 2) (cut := []) (cs := []) (sp := []) (N := 1) sv_nv (by decide +kernel)
-- HungerDays$Reader.takeNumber(II)I (r2, 0, 999)
def sm_859 : sv_SM := (189, 3, 0, [.inr (some 2), .inl (2147483648, 2147483648, 0, 0, 0), .inl (2147484647, 2147484647, 0, 0, 0)], [], [(2, 4, 12)], [(some (.inl (2147483647, 2147483647, 0, 0, 0)), [], []), (some (.inl (0, 4294967295, 0, 0, 0)), [], [])])
set_option maxRecDepth 1000000 in
theorem sm_859_ok : sv_valid sg sm_859 := sv_main (S := [sm_608, sm_613, sm_605, sm_620]) (na := 3) (cut := []) (cs := []) (sp := []) (N := 1) (sv_cv sm_608_ok (sv_cv sm_613_ok (sv_cv sm_605_ok (sv_cv sm_620_ok sv_nv)))) (by decide +kernel)
-- HungerDays$Sentence.addStep(III)Z (r111, [13,21], [MIN,MAX], [MIN,MAX])
def sm_860 : sv_SM := (191, 1, 0, [.inr (some 111), .inl (2147483661, 2147483669, 0, 0, 0), .inl (0, 4294967295, 0, 0, 0), .inl (0, 4294967295, 0, 0, 0)], [(1818625, 2147483648, 2147483688, 0, 0)], [(111, 1, 1), (112, 0, 39), (113, 0, 39), (114, 0, 39)], [(some (.inl (2147483648, 2147483648, 0, 0, 0)), [], []), (some (.inl (2147483649, 2147483649, 0, 0, 0)), [], [(1818625, 2147483649, 2147483688, 0, 0)])])
set_option maxRecDepth 1000000 in
theorem sm_860_ok : sv_valid sg sm_860 := sv_main (S := []) (na := 4) (cut := []) (cs := []) (sp := []) (N := 1) sv_nv (by decide +kernel)
-- HungerDays$Sentence.addStep(III)Z (r111, [13,21], [MIN,MAX], -1)
def sm_861 : sv_SM := (191, 1, 0, [.inr (some 111), .inl (2147483661, 2147483669, 0, 0, 0), .inl (0, 4294967295, 0, 0, 0), .inl (2147483647, 2147483647, 0, 0, 0)], [(1818625, 2147483648, 2147483688, 0, 0)], [], [(some (.inl (2147483648, 2147483648, 0, 0, 0)), [], [])])
set_option maxRecDepth 1000000 in
theorem sm_861_ok : sv_valid sg sm_861 := sv_main (S := []) (na := 4) (cut := []) (cs := []) (sp := []) (N := 1) sv_nv (by decide +kernel)
-- HungerDays$Sentence.readComparison(LHungerDays$Reader;I)Z (r111, r2, [13,21])
def sm_862 : sv_SM := (198, 4, 0, [.inr (some 111), .inr (some 2), .inl (2147483661, 2147483669, 0, 0, 0)], [], [(2, 4, 12), (111, 1, 1), (112, 0, 39), (113, 0, 39), (114, 0, 39)], [(some (.inl (2147483648, 2147483648, 0, 0, 0)), [], []), (some (.inl (2147483649, 2147483649, 0, 0, 0)), [], [])])
set_option maxRecDepth 1000000 in
theorem sm_862_ok : sv_valid sg sm_862 := sv_main (S := [sm_856, sm_857, sm_858, sm_608, sm_605, sm_859, sm_860, sm_861]) (na := 3) (cut := []) (cs := []) (sp := []) (N := 1) (sv_cv sm_856_ok (sv_cv sm_857_ok (sv_cv sm_858_ok (sv_cv sm_608_ok (sv_cv sm_605_ok (sv_cv sm_859_ok (sv_cv sm_860_ok (sv_cv sm_861_ok sv_nv)))))))) (by decide +kernel)
-- HungerDays$Sentence.readCond(LHungerDays$Reader;LHungerDays$Valley;I)Z (r111, r2, r4, 9)
def sm_863 : sv_SM := (68, 3, 0, [.inr (some 111), .inr (some 2), .inr (some 4), .inl (2147483657, 2147483657, 0, 0, 0)], [], [(2, 11, 12)], [(some (.inl (2147483648, 2147483648, 0, 0, 0)), [], [])])
set_option maxRecDepth 1000000 in
theorem sm_863_ok : sv_valid sg sm_863 := sv_main (S := [sm_855]) (na := 4) (cut := [9]) (cs := [(9, 1, 1, 0, [some (.inr (some 111)), some (.inr (some 2)), some (.inr (some 4)), some (.inl (2147483657, 2147483657, 0, 0, 0)), some (.inl (2147483648, 2147483648, 0, 0, 0)), some (.inl (2147483648, 2147483648, 0, 0, 0)), some (.inl (2147483648, 2147483648, 0, 0, 0))], [], [])]) (sp := []) (N := 2) (sv_cv sm_855_ok sv_nv) (by decide +kernel)
-- HungerDays$Sentence.readOne(LHungerDays$Reader;LHungerDays$Valley;I)Z (r111, r2, r4, 8)
def sm_864 : sv_SM := (69, 5, 0, [.inr (some 111), .inr (some 2), .inr (some 4), .inl (2147483656, 2147483656, 0, 0, 0)], [], [(2, 4, 12), (111, 0, 1), (112, 0, 39), (113, 0, 39), (114, 0, 39)], [(some (.inl (2147483648, 2147483648, 0, 0, 0)), [], []), (some (.inl (2147483649, 2147483649, 0, 0, 0)), [], [])])
set_option maxRecDepth 1000000 in
theorem sm_864_ok : sv_valid sg sm_864 := sv_main (S := [sm_847, sm_605, sm_624, sm_848, sm_849, sm_850, sm_851, sm_852, sm_853, sm_854, sm_855, sm_862, sm_615, sm_608, sm_863]) (na := 4) (cut := []) (cs := []) (sp := []) (N := 1) (sv_cv sm_847_ok (sv_cv sm_605_ok (sv_cv sm_624_ok (sv_cv sm_848_ok (sv_cv sm_849_ok (sv_cv sm_850_ok (sv_cv sm_851_ok (sv_cv sm_852_ok (sv_cv sm_853_ok (sv_cv sm_854_ok (sv_cv sm_855_ok (sv_cv sm_862_ok (sv_cv sm_615_ok (sv_cv sm_608_ok (sv_cv sm_863_ok sv_nv))))))))))))))) (by decide +kernel)
-- HungerDays$Sentence.addStep(III)Z (r111, 13, 0, 0)
def sm_865 : sv_SM := (191, 1, 0, [.inr (some 111), .inl (2147483661, 2147483661, 0, 0, 0), .inl (2147483648, 2147483648, 0, 0, 0), .inl (2147483648, 2147483648, 0, 0, 0)], [(1818625, 2147483648, 2147483688, 0, 0)], [(111, 1, 1), (112, 0, 39), (113, 0, 39), (114, 0, 39)], [(some (.inl (2147483648, 2147483648, 0, 0, 0)), [], [(1818625, 2147483688, 2147483688, 0, 0)]), (some (.inl (2147483649, 2147483649, 0, 0, 0)), [], [(1818625, 2147483649, 2147483688, 0, 0)])])
set_option maxRecDepth 1000000 in
theorem sm_865_ok : sv_valid sg sm_865 := sv_main (S := []) (na := 4) (cut := []) (cs := []) (sp := []) (N := 1) sv_nv (by decide +kernel)
-- HungerDays$Sentence.joinLatest(II)I (r111, 12, 0)
def sm_866 : sv_SM := (194, 1, 0, [.inr (some 111), .inl (2147483660, 2147483660, 0, 0, 0), .inl (2147483648, 2147483648, 0, 0, 0)], [], [], [(some (.inl (2147483648, 2147483648, 0, 0, 0)), [], [])])
set_option maxRecDepth 1000000 in
theorem sm_866_ok : sv_valid sg sm_866 := sv_main (S := []) (na := 3) (cut := []) (cs := []) (sp := []) (N := 1) sv_nv (by decide +kernel)
-- HungerDays$Sentence.joinLatest(II)I (r111, 11, 0)
def sm_867 : sv_SM := (194, 1, 0, [.inr (some 111), .inl (2147483659, 2147483659, 0, 0, 0), .inl (2147483648, 2147483648, 0, 0, 0)], [], [], [(some (.inl (2147483648, 2147483648, 0, 0, 0)), [], [])])
set_option maxRecDepth 1000000 in
theorem sm_867_ok : sv_valid sg sm_867 := sv_main (S := []) (na := 3) (cut := []) (cs := []) (sp := []) (N := 1) sv_nv (by decide +kernel)
-- HungerDays$Sentence.addStep(III)Z (r111, 12, 0, 0)
def sm_868 : sv_SM := (191, 1, 0, [.inr (some 111), .inl (2147483660, 2147483660, 0, 0, 0), .inl (2147483648, 2147483648, 0, 0, 0), .inl (2147483648, 2147483648, 0, 0, 0)], [(1818625, 2147483648, 2147483688, 0, 0)], [(111, 1, 1), (112, 0, 39), (113, 0, 39), (114, 0, 39)], [(some (.inl (2147483648, 2147483648, 0, 0, 0)), [], [(1818625, 2147483688, 2147483688, 0, 0)]), (some (.inl (2147483649, 2147483649, 0, 0, 0)), [], [(1818625, 2147483649, 2147483688, 0, 0)])])
set_option maxRecDepth 1000000 in
theorem sm_868_ok : sv_valid sg sm_868 := sv_main (S := []) (na := 4) (cut := []) (cs := []) (sp := []) (N := 1) sv_nv (by decide +kernel)
-- HungerDays$Sentence.joinLatest(II)I (r111, 12, [0,1])
def sm_869 : sv_SM := (194, 2, 0, [.inr (some 111), .inl (2147483660, 2147483660, 0, 0, 0), .inl (2147483648, 2147483649, 0, 0, 0)], [], [(111, 1, 1), (112, 0, 39), (113, 0, 39), (114, 0, 39)], [(some (.inl (2147483648, 2147483648, 0, 0, 0)), [], [])])
set_option maxRecDepth 1000000 in
theorem sm_869_ok : sv_valid sg sm_869 := sv_main (S := [sm_868]) (na := 3) (cut := []) (cs := []) (sp := []) (N := 1) (sv_cv sm_868_ok sv_nv) (by decide +kernel)
-- HungerDays$Sentence.addStep(III)Z (r111, 11, 0, 0)
def sm_870 : sv_SM := (191, 1, 0, [.inr (some 111), .inl (2147483659, 2147483659, 0, 0, 0), .inl (2147483648, 2147483648, 0, 0, 0), .inl (2147483648, 2147483648, 0, 0, 0)], [(1818625, 2147483648, 2147483688, 0, 0)], [(111, 1, 1), (112, 0, 39), (113, 0, 39), (114, 0, 39)], [(some (.inl (2147483648, 2147483648, 0, 0, 0)), [], [(1818625, 2147483688, 2147483688, 0, 0)]), (some (.inl (2147483649, 2147483649, 0, 0, 0)), [], [(1818625, 2147483649, 2147483688, 0, 0)])])
set_option maxRecDepth 1000000 in
theorem sm_870_ok : sv_valid sg sm_870 := sv_main (S := []) (na := 4) (cut := []) (cs := []) (sp := []) (N := 1) sv_nv (by decide +kernel)
-- HungerDays$Sentence.joinLatest(II)I (r111, 11, [0,1])
def sm_871 : sv_SM := (194, 2, 0, [.inr (some 111), .inl (2147483659, 2147483659, 0, 0, 0), .inl (2147483648, 2147483649, 0, 0, 0)], [], [(111, 1, 1), (112, 0, 39), (113, 0, 39), (114, 0, 39)], [(some (.inl (2147483648, 2147483648, 0, 0, 0)), [], [])])
set_option maxRecDepth 1000000 in
theorem sm_871_ok : sv_valid sg sm_871 := sv_main (S := [sm_870]) (na := 3) (cut := []) (cs := []) (sp := []) (N := 1) (sv_cv sm_870_ok sv_nv) (by decide +kernel)
-- HungerDays$Sentence.readCond(LHungerDays$Reader;LHungerDays$Valley;I)Z (r111, r2, r4, 8)
def sm_872 : sv_SM := (68, 6, 0, [.inr (some 111), .inr (some 2), .inr (some 4), .inl (2147483656, 2147483656, 0, 0, 0)], [], [(2, 4, 12), (111, 0, 1), (112, 0, 39), (113, 0, 39), (114, 0, 39)], [(some (.inl (2147483649, 2147483649, 0, 0, 0)), [], []), (some (.inl (2147483648, 2147483648, 0, 0, 0)), [], [])])
set_option maxRecDepth 1000000 in
theorem sm_872_ok : sv_valid sg sm_872 := sv_main (S := [sm_864, sm_869, sm_605, sm_871, sm_615]) (na := 4) (cut := [9]) (cs := [(9, 1, 1, 13, [some (.inr (some 111)), some (.inr (some 2)), some (.inr (some 4)), some (.inl (2147483656, 2147483656, 0, 0, 0)), some (.inl (2147483648, 2147483649, 0, 0, 0)), some (.inl (2147483648, 2147483649, 0, 0, 0)), some (.inl (2147483648, 2147483669, 0, 0, 0))], [], [])]) (sp := []) (N := 2) (sv_cv sm_864_ok (sv_cv sm_869_ok (sv_cv sm_605_ok (sv_cv sm_871_ok (sv_cv sm_615_ok sv_nv))))) (by decide +kernel)
-- HungerDays$Reader.isSign(I)Z (r2, 41)
def sm_873 : sv_SM := (60, 1, 0, [.inr (some 2), .inl (2147483689, 2147483689, 0, 0, 0)], [], [], [(some (.inl (2147483649, 2147483649, 0, 0, 0)), [], []), (some (.inl (2147483648, 2147483648, 0, 0, 0)), [], [])])
set_option maxRecDepth 1000000 in
theorem sm_873_ok : sv_valid sg sm_873 := sv_main (S := []) (na := 2) (cut := []) (cs := []) (sp := []) (N := 1) sv_nv (by decide +kernel)
-- HungerDays$Reader.takeSign(I)Z (r2, 41)
def sm_874 : sv_SM := (190, 3, 0, [.inr (some 2), .inl (2147483689, 2147483689, 0, 0, 0)], [], [(2, 4, 12)], [(some (.inl (2147483648, 2147483648, 0, 0, 0)), [], []), (some (.inl (2147483649, 2147483649, 0, 0, 0)), [], [])])
set_option maxRecDepth 1000000 in
theorem sm_874_ok : sv_valid sg sm_874 := sv_main (S := [sm_873, sm_608, sm_605]) (na := 2) (cut := []) (cs := []) (sp := []) (N := 1) (sv_cv sm_873_ok (sv_cv sm_608_ok (sv_cv sm_605_ok sv_nv))) (by decide +kernel)
-- HungerDays$Sentence.readOne(LHungerDays$Reader;LHungerDays$Valley;I)Z (r111, r2, r4, 7)
def sm_875 : sv_SM := (69, 7, 0, [.inr (some 111), .inr (some 2), .inr (some 4), .inl (2147483655, 2147483655, 0, 0, 0)], [], [(2, 4, 12), (111, 0, 1), (112, 0, 39), (113, 0, 39), (114, 0, 39)], [(some (.inl (2147483648, 2147483648, 0, 0, 0)), [], []), (some (.inl (2147483649, 2147483649, 0, 0, 0)), [], [])])
set_option maxRecDepth 1000000 in
theorem sm_875_ok : sv_valid sg sm_875 := sv_main (S := [sm_847, sm_605, sm_624, sm_848, sm_849, sm_850, sm_851, sm_852, sm_853, sm_854, sm_864, sm_865, sm_862, sm_615, sm_608, sm_872, sm_874]) (na := 4) (cut := []) (cs := []) (sp := []) (N := 1) (sv_cv sm_847_ok (sv_cv sm_605_ok (sv_cv sm_624_ok (sv_cv sm_848_ok (sv_cv sm_849_ok (sv_cv sm_850_ok (sv_cv sm_851_ok (sv_cv sm_852_ok (sv_cv sm_853_ok (sv_cv sm_854_ok (sv_cv sm_864_ok (sv_cv sm_865_ok (sv_cv sm_862_ok (sv_cv sm_615_ok (sv_cv sm_608_ok (sv_cv sm_872_ok (sv_cv sm_874_ok sv_nv))))))))))))))))) (by decide +kernel)
-- HungerDays$Sentence.readCond(LHungerDays$Reader;LHungerDays$Valley;I)Z (r111, r2, r4, 7)
def sm_876 : sv_SM := (68, 8, 0, [.inr (some 111), .inr (some 2), .inr (some 4), .inl (2147483655, 2147483655, 0, 0, 0)], [], [(2, 4, 12), (111, 0, 1), (112, 0, 39), (113, 0, 39), (114, 0, 39)], [(some (.inl (2147483649, 2147483649, 0, 0, 0)), [], []), (some (.inl (2147483648, 2147483648, 0, 0, 0)), [], [])])
set_option maxRecDepth 1000000 in
theorem sm_876_ok : sv_valid sg sm_876 := sv_main (S := [sm_875, sm_869, sm_605, sm_871, sm_615]) (na := 4) (cut := [9]) (cs := [(9, 1, 1, 13, [some (.inr (some 111)), some (.inr (some 2)), some (.inr (some 4)), some (.inl (2147483655, 2147483655, 0, 0, 0)), some (.inl (2147483648, 2147483649, 0, 0, 0)), some (.inl (2147483648, 2147483649, 0, 0, 0)), some (.inl (2147483648, 2147483669, 0, 0, 0))], [], [])]) (sp := []) (N := 2) (sv_cv sm_875_ok (sv_cv sm_869_ok (sv_cv sm_605_ok (sv_cv sm_871_ok (sv_cv sm_615_ok sv_nv))))) (by decide +kernel)
-- HungerDays$Sentence.readOne(LHungerDays$Reader;LHungerDays$Valley;I)Z (r111, r2, r4, 6)
def sm_877 : sv_SM := (69, 9, 0, [.inr (some 111), .inr (some 2), .inr (some 4), .inl (2147483654, 2147483654, 0, 0, 0)], [], [(2, 4, 12), (111, 0, 1), (112, 0, 39), (113, 0, 39), (114, 0, 39)], [(some (.inl (2147483648, 2147483648, 0, 0, 0)), [], []), (some (.inl (2147483649, 2147483649, 0, 0, 0)), [], [])])
set_option maxRecDepth 1000000 in
theorem sm_877_ok : sv_valid sg sm_877 := sv_main (S := [sm_847, sm_605, sm_624, sm_848, sm_849, sm_850, sm_851, sm_852, sm_853, sm_854, sm_875, sm_865, sm_862, sm_615, sm_608, sm_876, sm_874]) (na := 4) (cut := []) (cs := []) (sp := []) (N := 1) (sv_cv sm_847_ok (sv_cv sm_605_ok (sv_cv sm_624_ok (sv_cv sm_848_ok (sv_cv sm_849_ok (sv_cv sm_850_ok (sv_cv sm_851_ok (sv_cv sm_852_ok (sv_cv sm_853_ok (sv_cv sm_854_ok (sv_cv sm_875_ok (sv_cv sm_865_ok (sv_cv sm_862_ok (sv_cv sm_615_ok (sv_cv sm_608_ok (sv_cv sm_876_ok (sv_cv sm_874_ok sv_nv))))))))))))))))) (by decide +kernel)
-- HungerDays$Sentence.readCond(LHungerDays$Reader;LHungerDays$Valley;I)Z (r111, r2, r4, 6)
def sm_878 : sv_SM := (68, 10, 0, [.inr (some 111), .inr (some 2), .inr (some 4), .inl (2147483654, 2147483654, 0, 0, 0)], [], [(2, 4, 12), (111, 0, 1), (112, 0, 39), (113, 0, 39), (114, 0, 39)], [(some (.inl (2147483649, 2147483649, 0, 0, 0)), [], []), (some (.inl (2147483648, 2147483648, 0, 0, 0)), [], [])])
set_option maxRecDepth 1000000 in
theorem sm_878_ok : sv_valid sg sm_878 := sv_main (S := [sm_877, sm_869, sm_605, sm_871, sm_615]) (na := 4) (cut := [9]) (cs := [(9, 1, 1, 13, [some (.inr (some 111)), some (.inr (some 2)), some (.inr (some 4)), some (.inl (2147483654, 2147483654, 0, 0, 0)), some (.inl (2147483648, 2147483649, 0, 0, 0)), some (.inl (2147483648, 2147483649, 0, 0, 0)), some (.inl (2147483648, 2147483669, 0, 0, 0))], [], [])]) (sp := []) (N := 2) (sv_cv sm_877_ok (sv_cv sm_869_ok (sv_cv sm_605_ok (sv_cv sm_871_ok (sv_cv sm_615_ok sv_nv))))) (by decide +kernel)
-- HungerDays$Sentence.readOne(LHungerDays$Reader;LHungerDays$Valley;I)Z (r111, r2, r4, 5)
def sm_879 : sv_SM := (69, 11, 0, [.inr (some 111), .inr (some 2), .inr (some 4), .inl (2147483653, 2147483653, 0, 0, 0)], [], [(2, 4, 12), (111, 0, 1), (112, 0, 39), (113, 0, 39), (114, 0, 39)], [(some (.inl (2147483648, 2147483648, 0, 0, 0)), [], []), (some (.inl (2147483649, 2147483649, 0, 0, 0)), [], [])])
set_option maxRecDepth 1000000 in
theorem sm_879_ok : sv_valid sg sm_879 := sv_main (S := [sm_847, sm_605, sm_624, sm_848, sm_849, sm_850, sm_851, sm_852, sm_853, sm_854, sm_877, sm_865, sm_862, sm_615, sm_608, sm_878, sm_874]) (na := 4) (cut := []) (cs := []) (sp := []) (N := 1) (sv_cv sm_847_ok (sv_cv sm_605_ok (sv_cv sm_624_ok (sv_cv sm_848_ok (sv_cv sm_849_ok (sv_cv sm_850_ok (sv_cv sm_851_ok (sv_cv sm_852_ok (sv_cv sm_853_ok (sv_cv sm_854_ok (sv_cv sm_877_ok (sv_cv sm_865_ok (sv_cv sm_862_ok (sv_cv sm_615_ok (sv_cv sm_608_ok (sv_cv sm_878_ok (sv_cv sm_874_ok sv_nv))))))))))))))))) (by decide +kernel)
-- HungerDays$Sentence.readCond(LHungerDays$Reader;LHungerDays$Valley;I)Z (r111, r2, r4, 5)
def sm_880 : sv_SM := (68, 12, 0, [.inr (some 111), .inr (some 2), .inr (some 4), .inl (2147483653, 2147483653, 0, 0, 0)], [], [(2, 4, 12), (111, 0, 1), (112, 0, 39), (113, 0, 39), (114, 0, 39)], [(some (.inl (2147483649, 2147483649, 0, 0, 0)), [], []), (some (.inl (2147483648, 2147483648, 0, 0, 0)), [], [])])
set_option maxRecDepth 1000000 in
theorem sm_880_ok : sv_valid sg sm_880 := sv_main (S := [sm_879, sm_869, sm_605, sm_871, sm_615]) (na := 4) (cut := [9]) (cs := [(9, 1, 1, 13, [some (.inr (some 111)), some (.inr (some 2)), some (.inr (some 4)), some (.inl (2147483653, 2147483653, 0, 0, 0)), some (.inl (2147483648, 2147483649, 0, 0, 0)), some (.inl (2147483648, 2147483649, 0, 0, 0)), some (.inl (2147483648, 2147483669, 0, 0, 0))], [], [])]) (sp := []) (N := 2) (sv_cv sm_879_ok (sv_cv sm_869_ok (sv_cv sm_605_ok (sv_cv sm_871_ok (sv_cv sm_615_ok sv_nv))))) (by decide +kernel)
-- HungerDays$Sentence.readOne(LHungerDays$Reader;LHungerDays$Valley;I)Z (r111, r2, r4, 4)
def sm_881 : sv_SM := (69, 13, 0, [.inr (some 111), .inr (some 2), .inr (some 4), .inl (2147483652, 2147483652, 0, 0, 0)], [], [(2, 4, 12), (111, 0, 1), (112, 0, 39), (113, 0, 39), (114, 0, 39)], [(some (.inl (2147483648, 2147483648, 0, 0, 0)), [], []), (some (.inl (2147483649, 2147483649, 0, 0, 0)), [], [])])
set_option maxRecDepth 1000000 in
theorem sm_881_ok : sv_valid sg sm_881 := sv_main (S := [sm_847, sm_605, sm_624, sm_848, sm_849, sm_850, sm_851, sm_852, sm_853, sm_854, sm_879, sm_865, sm_862, sm_615, sm_608, sm_880, sm_874]) (na := 4) (cut := []) (cs := []) (sp := []) (N := 1) (sv_cv sm_847_ok (sv_cv sm_605_ok (sv_cv sm_624_ok (sv_cv sm_848_ok (sv_cv sm_849_ok (sv_cv sm_850_ok (sv_cv sm_851_ok (sv_cv sm_852_ok (sv_cv sm_853_ok (sv_cv sm_854_ok (sv_cv sm_879_ok (sv_cv sm_865_ok (sv_cv sm_862_ok (sv_cv sm_615_ok (sv_cv sm_608_ok (sv_cv sm_880_ok (sv_cv sm_874_ok sv_nv))))))))))))))))) (by decide +kernel)
-- HungerDays$Sentence.readCond(LHungerDays$Reader;LHungerDays$Valley;I)Z (r111, r2, r4, 4)
def sm_882 : sv_SM := (68, 14, 0, [.inr (some 111), .inr (some 2), .inr (some 4), .inl (2147483652, 2147483652, 0, 0, 0)], [], [(2, 4, 12), (111, 0, 1), (112, 0, 39), (113, 0, 39), (114, 0, 39)], [(some (.inl (2147483649, 2147483649, 0, 0, 0)), [], []), (some (.inl (2147483648, 2147483648, 0, 0, 0)), [], [])])
set_option maxRecDepth 1000000 in
theorem sm_882_ok : sv_valid sg sm_882 := sv_main (S := [sm_881, sm_869, sm_605, sm_871, sm_615]) (na := 4) (cut := [9]) (cs := [(9, 1, 1, 13, [some (.inr (some 111)), some (.inr (some 2)), some (.inr (some 4)), some (.inl (2147483652, 2147483652, 0, 0, 0)), some (.inl (2147483648, 2147483649, 0, 0, 0)), some (.inl (2147483648, 2147483649, 0, 0, 0)), some (.inl (2147483648, 2147483669, 0, 0, 0))], [], [])]) (sp := []) (N := 2) (sv_cv sm_881_ok (sv_cv sm_869_ok (sv_cv sm_605_ok (sv_cv sm_871_ok (sv_cv sm_615_ok sv_nv))))) (by decide +kernel)
-- HungerDays$Sentence.readOne(LHungerDays$Reader;LHungerDays$Valley;I)Z (r111, r2, r4, 3)
def sm_883 : sv_SM := (69, 15, 0, [.inr (some 111), .inr (some 2), .inr (some 4), .inl (2147483651, 2147483651, 0, 0, 0)], [], [(2, 4, 12), (111, 0, 1), (112, 0, 39), (113, 0, 39), (114, 0, 39)], [(some (.inl (2147483648, 2147483648, 0, 0, 0)), [], []), (some (.inl (2147483649, 2147483649, 0, 0, 0)), [], [])])
set_option maxRecDepth 1000000 in
theorem sm_883_ok : sv_valid sg sm_883 := sv_main (S := [sm_847, sm_605, sm_624, sm_848, sm_849, sm_850, sm_851, sm_852, sm_853, sm_854, sm_881, sm_865, sm_862, sm_615, sm_608, sm_882, sm_874]) (na := 4) (cut := []) (cs := []) (sp := []) (N := 1) (sv_cv sm_847_ok (sv_cv sm_605_ok (sv_cv sm_624_ok (sv_cv sm_848_ok (sv_cv sm_849_ok (sv_cv sm_850_ok (sv_cv sm_851_ok (sv_cv sm_852_ok (sv_cv sm_853_ok (sv_cv sm_854_ok (sv_cv sm_881_ok (sv_cv sm_865_ok (sv_cv sm_862_ok (sv_cv sm_615_ok (sv_cv sm_608_ok (sv_cv sm_882_ok (sv_cv sm_874_ok sv_nv))))))))))))))))) (by decide +kernel)
-- HungerDays$Sentence.readCond(LHungerDays$Reader;LHungerDays$Valley;I)Z (r111, r2, r4, 3)
def sm_884 : sv_SM := (68, 16, 0, [.inr (some 111), .inr (some 2), .inr (some 4), .inl (2147483651, 2147483651, 0, 0, 0)], [], [(2, 4, 12), (111, 0, 1), (112, 0, 39), (113, 0, 39), (114, 0, 39)], [(some (.inl (2147483649, 2147483649, 0, 0, 0)), [], []), (some (.inl (2147483648, 2147483648, 0, 0, 0)), [], [])])
set_option maxRecDepth 1000000 in
theorem sm_884_ok : sv_valid sg sm_884 := sv_main (S := [sm_883, sm_869, sm_605, sm_871, sm_615]) (na := 4) (cut := [9]) (cs := [(9, 1, 1, 13, [some (.inr (some 111)), some (.inr (some 2)), some (.inr (some 4)), some (.inl (2147483651, 2147483651, 0, 0, 0)), some (.inl (2147483648, 2147483649, 0, 0, 0)), some (.inl (2147483648, 2147483649, 0, 0, 0)), some (.inl (2147483648, 2147483669, 0, 0, 0))], [], [])]) (sp := []) (N := 2) (sv_cv sm_883_ok (sv_cv sm_869_ok (sv_cv sm_605_ok (sv_cv sm_871_ok (sv_cv sm_615_ok sv_nv))))) (by decide +kernel)
-- HungerDays$Sentence.readOne(LHungerDays$Reader;LHungerDays$Valley;I)Z (r111, r2, r4, 2)
def sm_885 : sv_SM := (69, 17, 0, [.inr (some 111), .inr (some 2), .inr (some 4), .inl (2147483650, 2147483650, 0, 0, 0)], [], [(2, 4, 12), (111, 0, 1), (112, 0, 39), (113, 0, 39), (114, 0, 39)], [(some (.inl (2147483648, 2147483648, 0, 0, 0)), [], []), (some (.inl (2147483649, 2147483649, 0, 0, 0)), [], [])])
set_option maxRecDepth 1000000 in
theorem sm_885_ok : sv_valid sg sm_885 := sv_main (S := [sm_847, sm_605, sm_624, sm_848, sm_849, sm_850, sm_851, sm_852, sm_853, sm_854, sm_883, sm_865, sm_862, sm_615, sm_608, sm_884, sm_874]) (na := 4) (cut := []) (cs := []) (sp := []) (N := 1) (sv_cv sm_847_ok (sv_cv sm_605_ok (sv_cv sm_624_ok (sv_cv sm_848_ok (sv_cv sm_849_ok (sv_cv sm_850_ok (sv_cv sm_851_ok (sv_cv sm_852_ok (sv_cv sm_853_ok (sv_cv sm_854_ok (sv_cv sm_883_ok (sv_cv sm_865_ok (sv_cv sm_862_ok (sv_cv sm_615_ok (sv_cv sm_608_ok (sv_cv sm_884_ok (sv_cv sm_874_ok sv_nv))))))))))))))))) (by decide +kernel)
-- HungerDays$Sentence.readCond(LHungerDays$Reader;LHungerDays$Valley;I)Z (r111, r2, r4, 2)
def sm_886 : sv_SM := (68, 18, 0, [.inr (some 111), .inr (some 2), .inr (some 4), .inl (2147483650, 2147483650, 0, 0, 0)], [], [(2, 4, 12), (111, 0, 1), (112, 0, 39), (113, 0, 39), (114, 0, 39)], [(some (.inl (2147483649, 2147483649, 0, 0, 0)), [], []), (some (.inl (2147483648, 2147483648, 0, 0, 0)), [], [])])
set_option maxRecDepth 1000000 in
theorem sm_886_ok : sv_valid sg sm_886 := sv_main (S := [sm_885, sm_869, sm_605, sm_871, sm_615]) (na := 4) (cut := [9]) (cs := [(9, 1, 1, 13, [some (.inr (some 111)), some (.inr (some 2)), some (.inr (some 4)), some (.inl (2147483650, 2147483650, 0, 0, 0)), some (.inl (2147483648, 2147483649, 0, 0, 0)), some (.inl (2147483648, 2147483649, 0, 0, 0)), some (.inl (2147483648, 2147483669, 0, 0, 0))], [], [])]) (sp := []) (N := 2) (sv_cv sm_885_ok (sv_cv sm_869_ok (sv_cv sm_605_ok (sv_cv sm_871_ok (sv_cv sm_615_ok sv_nv))))) (by decide +kernel)
-- HungerDays$Sentence.readOne(LHungerDays$Reader;LHungerDays$Valley;I)Z (r111, r2, r4, 1)
def sm_887 : sv_SM := (69, 19, 0, [.inr (some 111), .inr (some 2), .inr (some 4), .inl (2147483649, 2147483649, 0, 0, 0)], [], [(2, 4, 12), (111, 0, 1), (112, 0, 39), (113, 0, 39), (114, 0, 39)], [(some (.inl (2147483648, 2147483648, 0, 0, 0)), [], []), (some (.inl (2147483649, 2147483649, 0, 0, 0)), [], [])])
set_option maxRecDepth 1000000 in
theorem sm_887_ok : sv_valid sg sm_887 := sv_main (S := [sm_847, sm_605, sm_624, sm_848, sm_849, sm_850, sm_851, sm_852, sm_853, sm_854, sm_885, sm_865, sm_862, sm_615, sm_608, sm_886, sm_874]) (na := 4) (cut := []) (cs := []) (sp := []) (N := 1) (sv_cv sm_847_ok (sv_cv sm_605_ok (sv_cv sm_624_ok (sv_cv sm_848_ok (sv_cv sm_849_ok (sv_cv sm_850_ok (sv_cv sm_851_ok (sv_cv sm_852_ok (sv_cv sm_853_ok (sv_cv sm_854_ok (sv_cv sm_885_ok (sv_cv sm_865_ok (sv_cv sm_862_ok (sv_cv sm_615_ok (sv_cv sm_608_ok (sv_cv sm_886_ok (sv_cv sm_874_ok sv_nv))))))))))))))))) (by decide +kernel)
-- HungerDays$Sentence.readCond(LHungerDays$Reader;LHungerDays$Valley;I)Z (r111, r2, r4, 1)
def sm_888 : sv_SM := (68, 20, 0, [.inr (some 111), .inr (some 2), .inr (some 4), .inl (2147483649, 2147483649, 0, 0, 0)], [], [(2, 4, 12), (111, 0, 1), (112, 0, 39), (113, 0, 39), (114, 0, 39)], [(some (.inl (2147483649, 2147483649, 0, 0, 0)), [], []), (some (.inl (2147483648, 2147483648, 0, 0, 0)), [], [])])
set_option maxRecDepth 1000000 in
theorem sm_888_ok : sv_valid sg sm_888 := sv_main (S := [sm_887, sm_869, sm_605, sm_871, sm_615]) (na := 4) (cut := [9]) (cs := [(9, 1, 1, 13, [some (.inr (some 111)), some (.inr (some 2)), some (.inr (some 4)), some (.inl (2147483649, 2147483649, 0, 0, 0)), some (.inl (2147483648, 2147483649, 0, 0, 0)), some (.inl (2147483648, 2147483649, 0, 0, 0)), some (.inl (2147483648, 2147483669, 0, 0, 0))], [], [])]) (sp := []) (N := 2) (sv_cv sm_887_ok (sv_cv sm_869_ok (sv_cv sm_605_ok (sv_cv sm_871_ok (sv_cv sm_615_ok sv_nv))))) (by decide +kernel)
-- HungerDays$Sentence.readAll(LHungerDays$Reader;LHungerDays$Valley;)Z (r111, r2, r4)
def sm_889 : sv_SM := (67, 21, 0, [.inr (some 111), .inr (some 2), .inr (some 4)], [], [(2, 4, 12), (111, 0, 1), (112, 0, 39), (113, 0, 39), (114, 0, 39)], [(some (.inl (2147483648, 2147483648, 0, 0, 0)), [], []), (some (.inl (2147483649, 2147483649, 0, 0, 0)), [], [])])
set_option maxRecDepth 1000000 in
theorem sm_889_ok : sv_valid sg sm_889 := sv_main (S := [sm_846, sm_888, sm_609]) (na := 3) (cut := []) (cs := []) (sp := []) (N := 1) (sv_cv sm_846_ok (sv_cv sm_888_ok (sv_cv sm_609_ok sv_nv))) (by decide +kernel)
-- HungerDays$Sentence.copyFrom(LHungerDays$Sentence;)V (r106, r111)
def sm_890 : sv_SM := (65, 1, 0, [.inr (some 106), .inr (some 111)], [], [(106, 0, 1), (107, 0, 47), (108, 0, 47), (109, 0, 47)], [(none, [], [])])
set_option maxRecDepth 1000000 in
theorem sm_890_ok : sv_valid sg sm_890 := sv_main (S := []) (na := 2) (cut := []) (cs := []) (sp := []) (N := 1) sv_nv (by decide +kernel)
-- HungerDays.sentence()I (r0)
def sm_891 : sv_SM := (39, 22, 0, [.inr (some 0)], [], [(0, 1, 1), (0, 3, 3), (2, 2, 12), (106, 0, 1), (107, 0, 47), (108, 0, 47), (109, 0, 47), (111, 0, 1), (112, 0, 39), (113, 0, 39), (114, 0, 39)], [(some (.inl (0, 4294967295, 0, 0, 0)), [], [])])
set_option maxRecDepth 1000000 in
theorem sm_891_ok : sv_valid sg sm_891 := sv_main (S := [sm_845, sm_889, sm_890]) (na := 1) (cut := []) (cs := []) (sp := []) (N := 1) (sv_cv sm_845_ok (sv_cv sm_889_ok (sv_cv sm_890_ok sv_nv))) (by decide +kernel)
-- HungerDays$State.goesAhead(IIII)Z ([MIN,MAX], 0, [MIN,MAX], [0,5])
def sm_892 : sv_SM := (202, 1, 0, [.inl (0, 4294967295, 0, 0, 0), .inl (2147483648, 2147483648, 0, 0, 0), .inl (0, 4294967295, 0, 0, 0), .inl (2147483648, 2147483653, 0, 0, 0)], [], [], [(some (.inl (2147483649, 2147483649, 0, 0, 0)), [], []), (some (.inl (2147483648, 2147483648, 0, 0, 0)), [], [])])
set_option maxRecDepth 1000000 in
theorem sm_892_ok : sv_valid sg sm_892 := sv_main (S := []) (na := 4) (cut := []) (cs := []) (sp := []) (N := 1) sv_nv (by decide +kernel)
-- HungerDays$State.goesAhead(IIII)Z ([MIN,MAX], [0,1], [MIN,MAX], [0,5])
def sm_893 : sv_SM := (202, 1, 0, [.inl (0, 4294967295, 0, 0, 0), .inl (2147483648, 2147483649, 0, 0, 0), .inl (0, 4294967295, 0, 0, 0), .inl (2147483648, 2147483653, 0, 0, 0)], [], [], [(some (.inl (2147483649, 2147483649, 0, 0, 0)), [], []), (some (.inl (2147483648, 2147483648, 0, 0, 0)), [], [])])
set_option maxRecDepth 1000000 in
theorem sm_893_ok : sv_valid sg sm_893 := sv_main (S := []) (na := 4) (cut := []) (cs := []) (sp := []) (N := 1) sv_nv (by decide +kernel)
-- HungerDays$State.goesAhead(IIII)Z ([MIN,MAX], [0,2], [MIN,MAX], [0,5])
def sm_894 : sv_SM := (202, 1, 0, [.inl (0, 4294967295, 0, 0, 0), .inl (2147483648, 2147483650, 0, 0, 0), .inl (0, 4294967295, 0, 0, 0), .inl (2147483648, 2147483653, 0, 0, 0)], [], [], [(some (.inl (2147483649, 2147483649, 0, 0, 0)), [], []), (some (.inl (2147483648, 2147483648, 0, 0, 0)), [], [])])
set_option maxRecDepth 1000000 in
theorem sm_894_ok : sv_valid sg sm_894 := sv_main (S := []) (na := 4) (cut := []) (cs := []) (sp := []) (N := 1) sv_nv (by decide +kernel)
-- HungerDays$State.goesAhead(IIII)Z ([MIN,MAX], [0,3], [MIN,MAX], [0,5])
def sm_895 : sv_SM := (202, 1, 0, [.inl (0, 4294967295, 0, 0, 0), .inl (2147483648, 2147483651, 0, 0, 0), .inl (0, 4294967295, 0, 0, 0), .inl (2147483648, 2147483653, 0, 0, 0)], [], [], [(some (.inl (2147483649, 2147483649, 0, 0, 0)), [], []), (some (.inl (2147483648, 2147483648, 0, 0, 0)), [], [])])
set_option maxRecDepth 1000000 in
theorem sm_895_ok : sv_valid sg sm_895 := sv_main (S := []) (na := 4) (cut := []) (cs := []) (sp := []) (N := 1) sv_nv (by decide +kernel)
-- HungerDays$State.goesAhead(IIII)Z ([MIN,MAX], [0,4], [MIN,MAX], [0,5])
def sm_896 : sv_SM := (202, 1, 0, [.inl (0, 4294967295, 0, 0, 0), .inl (2147483648, 2147483652, 0, 0, 0), .inl (0, 4294967295, 0, 0, 0), .inl (2147483648, 2147483653, 0, 0, 0)], [], [], [(some (.inl (2147483649, 2147483649, 0, 0, 0)), [], []), (some (.inl (2147483648, 2147483648, 0, 0, 0)), [], [])])
set_option maxRecDepth 1000000 in
theorem sm_896_ok : sv_valid sg sm_896 := sv_main (S := []) (na := 4) (cut := []) (cs := []) (sp := []) (N := 1) sv_nv (by decide +kernel)
-- HungerDays$State.goesAhead(IIII)Z ([MIN,MAX], [0,5], [MIN,MAX], [0,5])
def sm_897 : sv_SM := (202, 1, 0, [.inl (0, 4294967295, 0, 0, 0), .inl (2147483648, 2147483653, 0, 0, 0), .inl (0, 4294967295, 0, 0, 0), .inl (2147483648, 2147483653, 0, 0, 0)], [], [], [(some (.inl (2147483649, 2147483649, 0, 0, 0)), [], []), (some (.inl (2147483648, 2147483648, 0, 0, 0)), [], [])])
set_option maxRecDepth 1000000 in
theorem sm_897_ok : sv_valid sg sm_897 := sv_main (S := []) (na := 4) (cut := []) (cs := []) (sp := []) (N := 1) sv_nv (by decide +kernel)
-- HungerDays$State.partOf(II)I (r33, [0,999], [0,5])
def sm_898 : sv_SM := (210, 2, 0, [.inr (some 33), .inl (2147483648, 2147484647, 0, 0, 0), .inl (2147483648, 2147483653, 0, 0, 0)], [(4294967296, 0, 4294967295, 0, 0)], [], [(some (.inl (0, 4294967295, 0, 0, 0)), [], [])])
set_option maxRecDepth 1000000 in
theorem sm_898_ok : sv_valid sg sm_898 := sv_main (S := [sm_580, sm_897]) (na := 3) (cut := [5, 61]) (cs := [(5, 1, 1, 9, [some (.inr (some 33)), some (.inl (2147483648, 2147484647, 0, 0, 0)), some (.inl (2147483648, 2147483653, 0, 0, 0)), some (.inl (0, 4294967295, 0, 0, 0)), some (.inl (2147483648, 2147483654, 0, 0, 0)), none, none], [], [(4294967296, 0, 4294967295, 0, 0)]), (61, 2, 2, 13, [some (.inr (some 33)), some (.inl (2147483648, 2147484647, 0, 0, 0)), some (.inl (2147483648, 2147483653, 0, 0, 0)), some (.inl (2147483649, 4294967295, 0, 0, 0)), some (.inl (0, 4294967295, 0, 0, 0)), some (.inl (0, 4294967295, 0, 0, 0)), some (.inl (2147483648, 2147483654, 0, 0, 0))], [], [(4294967296, 0, 4294967295, 0, 0)]), (61, 3, 3, 13, [some (.inr (some 33)), some (.inl (2147483648, 2147484647, 0, 0, 0)), some (.inl (2147483648, 2147483653, 0, 0, 0)), some (.inl (0, 2147483647, 0, 0, 0)), some (.inl (0, 4294967295, 0, 0, 0)), some (.inl (0, 4294967295, 0, 0, 0)), some (.inl (2147483648, 2147483654, 0, 0, 0))], [], [(4294967296, 0, 4294967295, 0, 0)])]) (sp := []) (N := 4) (sv_cv sm_580_ok (sv_cv sm_897_ok sv_nv)) (by decide +kernel)
-- HungerDays.share(II)I (r0, [MIN,MAX], [MIN,MAX])
def sm_899 : sv_SM := (40, 3, 0, [.inr (some 0), .inl (0, 4294967295, 0, 0, 0), .inl (0, 4294967295, 0, 0, 0)], [], [], [(some (.inl (2147483647, 2147483647, 0, 0, 0)), [], []), (some (.inl (0, 4294967295, 0, 0, 0)), [.inr (some 0), .inl (2147483648, 2147484647, 0, 0, 0), .inl (2147483648, 2147483653, 0, 0, 0)], [])])
set_option maxRecDepth 1000000 in
theorem sm_899_ok : sv_valid sg sm_899 := sv_main (S := [sm_579, sm_580, sm_898]) (na := 3) (cut := []) (cs := []) (sp := []) (N := 1) (sv_cv sm_579_ok (sv_cv sm_580_ok (sv_cv sm_898_ok sv_nv))) (by decide +kernel)
-- HungerDays.surely()I (r0)
def sm_900 : sv_SM := (42, 1, 0, [.inr (some 0)], [], [], [(some (.inl (0, 4294967295, 0, 0, 0)), [], [])])
set_option maxRecDepth 1000000 in
theorem sm_900_ok : sv_valid sg sm_900 := sv_main (S := []) (na := 1) (cut := []) (cs := []) (sp := []) (N := 1) sv_nv (by decide +kernel)
-- HungerDays$Plates.dateBehind(LHungerDays$Valley;II)I (r4, [MIN,MAX], [0,192])
def sm_901 : sv_SM := (177, 2, 0, [.inr (some 4), .inl (0, 4294967295, 0, 0, 0), .inl (2147483648, 2147483840, 0, 0, 0)], [(65536, 0, 4294967295, 0, 0)], [], [(some (.inl (2147483647, 2147483647, 0, 0, 0)), [.inr (some 4), .inl (0, 4294967295, 0, 0, 0), .inl (2147483649, 2147483840, 0, 0, 0)], []), (some (.inl (2147483648, 4294967295, 0, 0, 0)), [], [])])
set_option maxRecDepth 1000000 in
theorem sm_901_ok : sv_valid sg sm_901 := sv_main (S := [sm_597]) (na := 3) (cut := [8]) (cs := [(8, 1, 1, 11, [some (.inr (some 4)), some (.inl (0, 4294967295, 0, 0, 0)), some (.inl (2147483648, 2147483840, 0, 0, 0)), some (.inl (0, 4294967295, 0, 0, 0)), some (.inl (2147483648, 4294967295, 0, 0, 0)), some (.inl (2147483648, 2147483652, 0, 0, 0)), none], [], [(65536, 0, 4294967295, 0, 0)])]) (sp := []) (N := 2) (sv_cv sm_597_ok sv_nv) (by decide +kernel)
-- HungerDays$Table.earliestDate()I (r121)
def sm_903 : sv_SM := (220, 1, 0, [.inr (some 121)], [], [], [(some (.inl (0, 2147483847, 0, 0, 0)), [], [])])
set_option maxRecDepth 1000000 in
theorem sm_903_ok : sv_valid sg sm_903 := sv_main (S := []) (na := 1) (cut := [6]) (cs := [(6, 1, 1, 5, [some (.inr (some 121)), some (.inl (0, 2147483847, 0, 0, 0)), some (.inl (2147483648, 2147483654, 0, 0, 0))], [], [])]) (sp := []) (N := 2) sv_nv (by decide +kernel)
-- HungerDays$Plates.portionsIn(I)I ([0,192])
def sm_904 : sv_SM := (182, 1, 0, [.inl (2147483648, 2147483840, 0, 0, 0)], [], [], [(some (.inl (2147483648, 2147483660, 0, 0, 0)), [], [])])
set_option maxRecDepth 1000000 in
theorem sm_904_ok : sv_valid sg sm_904 := sv_main (S := []) (na := 1) (cut := []) (cs := []) (sp := []) (N := 1) sv_nv (by decide +kernel)
-- HungerDays$Table.storesCode()I (r121)
def sm_906 : sv_SM := (227, 1, 0, [.inr (some 121)], [], [], [(some (.inl (0, 4294967295, 0, 0, 0)), [], [])])
set_option maxRecDepth 1000000 in
theorem sm_906_ok : sv_valid sg sm_906 := sv_main (S := []) (na := 1) (cut := [4]) (cs := [(4, 1, 1, 0, [some (.inr (some 121)), some (.inl (2147483648, 2147483648, 0, 0, 0)), some (.inl (2147483651, 2147483651, 0, 0, 0))], [], []), (4, 2, 2, 0, [some (.inr (some 121)), some (.inl (0, 4294967295, 0, 0, 0)), some (.inl (2147483650, 2147483650, 0, 0, 0))], [], []), (4, 3, 3, 0, [some (.inr (some 121)), some (.inl (0, 4294967295, 0, 0, 0)), some (.inl (2147483649, 2147483649, 0, 0, 0))], [], []), (4, 4, 4, 0, [some (.inr (some 121)), some (.inl (0, 4294967295, 0, 0, 0)), some (.inl (2147483648, 2147483648, 0, 0, 0))], [], []), (4, 5, 5, 0, [some (.inr (some 121)), some (.inl (0, 4294967295, 0, 0, 0)), some (.inl (2147483647, 2147483647, 0, 0, 0))], [], [])]) (sp := []) (N := 6) sv_nv (by decide +kernel)
