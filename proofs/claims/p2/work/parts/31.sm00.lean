-- by program (wip/p2): summaries, checked
-- HungerDaysModel.tries()V (r184)
def sm_0 : sv_SM := (147, 1, 0, [.inr (some 184)], [], [(192, 0, 40)], [(none, [], [])])
set_option maxRecDepth 1000000 in
theorem sm_0_ok : sv_valid sg sm_0 := sv_main (S := []) (na := 1) (cut := [2]) (cs := [(2, 1, 1, 0, [some (.inr (some 184)), some (.inl (2147483648, 2147483648, 0, 0, 0))], [], []), (2, 2, 2, 0, [some (.inr (some 184)), some (.inl (2147483649, 2147483649, 0, 0, 0))], [], []), (2, 3, 3, 0, [some (.inr (some 184)), some (.inl (2147483650, 2147483650, 0, 0, 0))], [], []), (2, 4, 4, 0, [some (.inr (some 184)), some (.inl (2147483651, 2147483651, 0, 0, 0))], [], []), (2, 5, 5, 0, [some (.inr (some 184)), some (.inl (2147483652, 2147483652, 0, 0, 0))], [], []), (2, 6, 6, 0, [some (.inr (some 184)), some (.inl (2147483653, 2147483653, 0, 0, 0))], [], []), (2, 7, 7, 0, [some (.inr (some 184)), some (.inl (2147483654, 2147483654, 0, 0, 0))], [], []), (2, 8, 8, 0, [some (.inr (some 184)), some (.inl (2147483655, 2147483655, 0, 0, 0))], [], []), (2, 9, 9, 0, [some (.inr (some 184)), some (.inl (2147483656, 2147483656, 0, 0, 0))], [], []), (2, 10, 10, 0, [some (.inr (some 184)), some (.inl (2147483657, 2147483657, 0, 0, 0))], [], []), (2, 11, 11, 0, [some (.inr (some 184)), some (.inl (2147483658, 2147483658, 0, 0, 0))], [], []), (2, 12, 12, 0, [some (.inr (some 184)), some (.inl (2147483659, 2147483659, 0, 0, 0))], [], []), (2, 13, 13, 0, [some (.inr (some 184)), some (.inl (2147483660, 2147483660, 0, 0, 0))], [], []), (2, 14, 14, 0, [some (.inr (some 184)), some (.inl (2147483661, 2147483661, 0, 0, 0))], [], []), (2, 15, 15, 0, [some (.inr (some 184)), some (.inl (2147483662, 2147483662, 0, 0, 0))], [], []), (2, 16, 16, 0, [some (.inr (some 184)), some (.inl (2147483663, 2147483663, 0, 0, 0))], [], []), (2, 17, 17, 0, [some (.inr (some 184)), some (.inl (2147483664, 2147483664, 0, 0, 0))], [], []), (2, 18, 18, 0, [some (.inr (some 184)), some (.inl (2147483665, 2147483665, 0, 0, 0))], [], []), (2, 19, 19, 0, [some (.inr (some 184)), some (.inl (2147483666, 2147483666, 0, 0, 0))], [], []), (2, 20, 20, 0, [some (.inr (some 184)), some (.inl (2147483667, 2147483667, 0, 0, 0))], [], []), (2, 21, 21, 0, [some (.inr (some 184)), some (.inl (2147483668, 2147483668, 0, 0, 0))], [], []), (2, 22, 22, 0, [some (.inr (some 184)), some (.inl (2147483669, 2147483669, 0, 0, 0))], [], []), (2, 23, 23, 0, [some (.inr (some 184)), some (.inl (2147483670, 2147483670, 0, 0, 0))], [], []), (2, 24, 24, 0, [some (.inr (some 184)), some (.inl (2147483671, 2147483671, 0, 0, 0))], [], []), (2, 25, 25, 0, [some (.inr (some 184)), some (.inl (2147483672, 2147483672, 0, 0, 0))], [], []), (2, 26, 26, 0, [some (.inr (some 184)), some (.inl (2147483673, 2147483673, 0, 0, 0))], [], []), (2, 27, 27, 0, [some (.inr (some 184)), some (.inl (2147483674, 2147483674, 0, 0, 0))], [], []), (2, 28, 28, 0, [some (.inr (some 184)), some (.inl (2147483675, 2147483675, 0, 0, 0))], [], []), (2, 29, 29, 0, [some (.inr (some 184)), some (.inl (2147483676, 2147483676, 0, 0, 0))], [], []), (2, 30, 30, 0, [some (.inr (some 184)), some (.inl (2147483677, 2147483677, 0, 0, 0))], [], []), (2, 31, 31, 0, [some (.inr (some 184)), some (.inl (2147483678, 2147483678, 0, 0, 0))], [], []), (2, 32, 32, 0, [some (.inr (some 184)), some (.inl (2147483679, 2147483679, 0, 0, 0))], [], []), (2, 33, 33, 0, [some (.inr (some 184)), some (.inl (2147483680, 2147483680, 0, 0, 0))], [], []), (2, 34, 34, 0, [some (.inr (some 184)), some (.inl (2147483681, 2147483681, 0, 0, 0))], [], []), (2, 35, 35, 0, [some (.inr (some 184)), some (.inl (2147483682, 2147483682, 0, 0, 0))], [], []), (2, 36, 36, 0, [some (.inr (some 184)), some (.inl (2147483683, 2147483683, 0, 0, 0))], [], []), (2, 37, 37, 0, [some (.inr (some 184)), some (.inl (2147483684, 2147483684, 0, 0, 0))], [], []), (2, 38, 38, 0, [some (.inr (some 184)), some (.inl (2147483685, 2147483685, 0, 0, 0))], [], []), (2, 39, 39, 0, [some (.inr (some 184)), some (.inl (2147483686, 2147483686, 0, 0, 0))], [], []), (2, 40, 40, 0, [some (.inr (some 184)), some (.inl (2147483687, 2147483687, 0, 0, 0))], [], []), (2, 41, 41, 0, [some (.inr (some 184)), some (.inl (2147483688, 2147483688, 0, 0, 0))], [], []), (2, 42, 42, 0, [some (.inr (some 184)), some (.inl (2147483689, 2147483689, 0, 0, 0))], [], [])]) (N := 43) sv_nv (by decide +kernel)
-- HungerDaysModel.bitOf(II)Z ([MIN,MAX], 0)
def sm_1 : sv_SM := (245, 1, 0, [.inl (0, 4294967295, 0, 0, 0), .inl (2147483648, 2147483648, 0, 0, 0)], [], [], [(some (.inl (2147483649, 2147483649, 0, 0, 0)), [], []), (some (.inl (2147483648, 2147483648, 0, 0, 0)), [], [])])
set_option maxRecDepth 1000000 in
theorem sm_1_ok : sv_valid sg sm_1 := sv_main (S := []) (na := 2) (cut := []) (cs := []) (N := 1) sv_nv (by decide +kernel)
-- HungerDaysModel.bitOf(II)Z ([MIN,MAX], [0,1])
def sm_2 : sv_SM := (245, 1, 0, [.inl (0, 4294967295, 0, 0, 0), .inl (2147483648, 2147483649, 0, 0, 0)], [], [], [(some (.inl (2147483649, 2147483649, 0, 0, 0)), [], []), (some (.inl (2147483648, 2147483648, 0, 0, 0)), [], [])])
set_option maxRecDepth 1000000 in
theorem sm_2_ok : sv_valid sg sm_2 := sv_main (S := []) (na := 2) (cut := []) (cs := []) (N := 1) sv_nv (by decide +kernel)
-- HungerDaysModel.dateOf(I)I (r184, 0)
def sm_3 : sv_SM := (248, 1, 0, [.inr (some 184), .inl (2147483648, 2147483648, 0, 0, 0)], [], [], [(some (.inl (2147483648, 2147483847, 0, 0, 0)), [], [])])
set_option maxRecDepth 1000000 in
theorem sm_3_ok : sv_valid sg sm_3 := sv_main (S := []) (na := 2) (cut := []) (cs := []) (N := 1) sv_nv (by decide +kernel)
-- HungerDaysModel.dateOf(I)I (r184, 1)
def sm_4 : sv_SM := (248, 1, 0, [.inr (some 184), .inl (2147483649, 2147483649, 0, 0, 0)], [], [], [(some (.inl (2147483648, 2147483847, 0, 0, 0)), [], [])])
set_option maxRecDepth 1000000 in
theorem sm_4_ok : sv_valid sg sm_4 := sv_main (S := []) (na := 2) (cut := []) (cs := []) (N := 1) sv_nv (by decide +kernel)
-- HungerDaysModel.bitOf(II)Z ([MIN,MAX], [0,2])
def sm_5 : sv_SM := (245, 1, 0, [.inl (0, 4294967295, 0, 0, 0), .inl (2147483648, 2147483650, 0, 0, 0)], [], [], [(some (.inl (2147483649, 2147483649, 0, 0, 0)), [], []), (some (.inl (2147483648, 2147483648, 0, 0, 0)), [], [])])
set_option maxRecDepth 1000000 in
theorem sm_5_ok : sv_valid sg sm_5 := sv_main (S := []) (na := 2) (cut := []) (cs := []) (N := 1) sv_nv (by decide +kernel)
-- HungerDaysModel.dateOf(I)I (r184, [0,1])
def sm_6 : sv_SM := (248, 1, 0, [.inr (some 184), .inl (2147483648, 2147483649, 0, 0, 0)], [], [], [(some (.inl (2147483648, 2147483847, 0, 0, 0)), [], [])])
set_option maxRecDepth 1000000 in
theorem sm_6_ok : sv_valid sg sm_6 := sv_main (S := []) (na := 2) (cut := []) (cs := []) (N := 1) sv_nv (by decide +kernel)
-- HungerDaysModel.dateOf(I)I (r184, [1,2])
def sm_7 : sv_SM := (248, 1, 0, [.inr (some 184), .inl (2147483649, 2147483650, 0, 0, 0)], [], [], [(some (.inl (2147483648, 2147483847, 0, 0, 0)), [], [])])
set_option maxRecDepth 1000000 in
theorem sm_7_ok : sv_valid sg sm_7 := sv_main (S := []) (na := 2) (cut := []) (cs := []) (N := 1) sv_nv (by decide +kernel)
-- HungerDaysModel.bitOf(II)Z ([MIN,MAX], [0,3])
def sm_8 : sv_SM := (245, 1, 0, [.inl (0, 4294967295, 0, 0, 0), .inl (2147483648, 2147483651, 0, 0, 0)], [], [], [(some (.inl (2147483649, 2147483649, 0, 0, 0)), [], []), (some (.inl (2147483648, 2147483648, 0, 0, 0)), [], [])])
set_option maxRecDepth 1000000 in
theorem sm_8_ok : sv_valid sg sm_8 := sv_main (S := []) (na := 2) (cut := []) (cs := []) (N := 1) sv_nv (by decide +kernel)
-- HungerDaysModel.dateOf(I)I (r184, [0,2])
def sm_9 : sv_SM := (248, 1, 0, [.inr (some 184), .inl (2147483648, 2147483650, 0, 0, 0)], [], [], [(some (.inl (2147483648, 2147483847, 0, 0, 0)), [], [])])
set_option maxRecDepth 1000000 in
theorem sm_9_ok : sv_valid sg sm_9 := sv_main (S := []) (na := 2) (cut := []) (cs := []) (N := 1) sv_nv (by decide +kernel)
-- HungerDaysModel.dateOf(I)I (r184, [1,3])
def sm_10 : sv_SM := (248, 1, 0, [.inr (some 184), .inl (2147483649, 2147483651, 0, 0, 0)], [], [], [(some (.inl (2147483648, 2147483847, 0, 0, 0)), [], [])])
set_option maxRecDepth 1000000 in
theorem sm_10_ok : sv_valid sg sm_10 := sv_main (S := []) (na := 2) (cut := []) (cs := []) (N := 1) sv_nv (by decide +kernel)
-- HungerDaysModel.bitOf(II)Z ([MIN,MAX], [0,4])
def sm_11 : sv_SM := (245, 1, 0, [.inl (0, 4294967295, 0, 0, 0), .inl (2147483648, 2147483652, 0, 0, 0)], [], [], [(some (.inl (2147483649, 2147483649, 0, 0, 0)), [], []), (some (.inl (2147483648, 2147483648, 0, 0, 0)), [], [])])
set_option maxRecDepth 1000000 in
theorem sm_11_ok : sv_valid sg sm_11 := sv_main (S := []) (na := 2) (cut := []) (cs := []) (N := 1) sv_nv (by decide +kernel)
-- HungerDaysModel.dateOf(I)I (r184, [0,3])
def sm_12 : sv_SM := (248, 1, 0, [.inr (some 184), .inl (2147483648, 2147483651, 0, 0, 0)], [], [], [(some (.inl (2147483648, 2147483847, 0, 0, 0)), [], [])])
set_option maxRecDepth 1000000 in
theorem sm_12_ok : sv_valid sg sm_12 := sv_main (S := []) (na := 2) (cut := []) (cs := []) (N := 1) sv_nv (by decide +kernel)
-- HungerDaysModel.dateOf(I)I (r184, [1,4])
def sm_13 : sv_SM := (248, 1, 0, [.inr (some 184), .inl (2147483649, 2147483652, 0, 0, 0)], [], [], [(some (.inl (2147483648, 2147483847, 0, 0, 0)), [], [])])
set_option maxRecDepth 1000000 in
theorem sm_13_ok : sv_valid sg sm_13 := sv_main (S := []) (na := 2) (cut := []) (cs := []) (N := 1) sv_nv (by decide +kernel)
-- HungerDaysModel.bitOf(II)Z ([MIN,MAX], [0,5])
def sm_14 : sv_SM := (245, 1, 0, [.inl (0, 4294967295, 0, 0, 0), .inl (2147483648, 2147483653, 0, 0, 0)], [], [], [(some (.inl (2147483649, 2147483649, 0, 0, 0)), [], []), (some (.inl (2147483648, 2147483648, 0, 0, 0)), [], [])])
set_option maxRecDepth 1000000 in
theorem sm_14_ok : sv_valid sg sm_14 := sv_main (S := []) (na := 2) (cut := []) (cs := []) (N := 1) sv_nv (by decide +kernel)
-- HungerDaysModel.dateOf(I)I (r184, [0,4])
def sm_15 : sv_SM := (248, 1, 0, [.inr (some 184), .inl (2147483648, 2147483652, 0, 0, 0)], [], [], [(some (.inl (2147483648, 2147483847, 0, 0, 0)), [], [])])
set_option maxRecDepth 1000000 in
theorem sm_15_ok : sv_valid sg sm_15 := sv_main (S := []) (na := 2) (cut := []) (cs := []) (N := 1) sv_nv (by decide +kernel)
-- HungerDaysModel.dateOf(I)I (r184, [1,5])
def sm_16 : sv_SM := (248, 1, 0, [.inr (some 184), .inl (2147483649, 2147483653, 0, 0, 0)], [], [], [(some (.inl (2147483648, 2147483847, 0, 0, 0)), [], [])])
set_option maxRecDepth 1000000 in
theorem sm_16_ok : sv_valid sg sm_16 := sv_main (S := []) (na := 2) (cut := []) (cs := []) (N := 1) sv_nv (by decide +kernel)
-- HungerDaysModel.bitOf(II)Z ([MIN,MAX], 1)
def sm_17 : sv_SM := (245, 1, 0, [.inl (0, 4294967295, 0, 0, 0), .inl (2147483649, 2147483649, 0, 0, 0)], [], [], [(some (.inl (2147483649, 2147483649, 0, 0, 0)), [], []), (some (.inl (2147483648, 2147483648, 0, 0, 0)), [], [])])
set_option maxRecDepth 1000000 in
theorem sm_17_ok : sv_valid sg sm_17 := sv_main (S := []) (na := 2) (cut := []) (cs := []) (N := 1) sv_nv (by decide +kernel)
-- HungerDaysModel.bitOf(II)Z ([MIN,MAX], 2)
def sm_18 : sv_SM := (245, 1, 0, [.inl (0, 4294967295, 0, 0, 0), .inl (2147483650, 2147483650, 0, 0, 0)], [], [], [(some (.inl (2147483649, 2147483649, 0, 0, 0)), [], []), (some (.inl (2147483648, 2147483648, 0, 0, 0)), [], [])])
set_option maxRecDepth 1000000 in
theorem sm_18_ok : sv_valid sg sm_18 := sv_main (S := []) (na := 2) (cut := []) (cs := []) (N := 1) sv_nv (by decide +kernel)
-- HungerDaysModel.dateOf(I)I (r184, 2)
def sm_19 : sv_SM := (248, 1, 0, [.inr (some 184), .inl (2147483650, 2147483650, 0, 0, 0)], [], [], [(some (.inl (2147483648, 2147483847, 0, 0, 0)), [], [])])
set_option maxRecDepth 1000000 in
theorem sm_19_ok : sv_valid sg sm_19 := sv_main (S := []) (na := 2) (cut := []) (cs := []) (N := 1) sv_nv (by decide +kernel)
-- HungerDaysModel.bitOf(II)Z ([MIN,MAX], 3)
def sm_20 : sv_SM := (245, 1, 0, [.inl (0, 4294967295, 0, 0, 0), .inl (2147483651, 2147483651, 0, 0, 0)], [], [], [(some (.inl (2147483649, 2147483649, 0, 0, 0)), [], []), (some (.inl (2147483648, 2147483648, 0, 0, 0)), [], [])])
set_option maxRecDepth 1000000 in
theorem sm_20_ok : sv_valid sg sm_20 := sv_main (S := []) (na := 2) (cut := []) (cs := []) (N := 1) sv_nv (by decide +kernel)
-- HungerDaysModel.dateOf(I)I (r184, [2,3])
def sm_21 : sv_SM := (248, 1, 0, [.inr (some 184), .inl (2147483650, 2147483651, 0, 0, 0)], [], [], [(some (.inl (2147483648, 2147483847, 0, 0, 0)), [], [])])
set_option maxRecDepth 1000000 in
theorem sm_21_ok : sv_valid sg sm_21 := sv_main (S := []) (na := 2) (cut := []) (cs := []) (N := 1) sv_nv (by decide +kernel)
-- HungerDaysModel.dateOf(I)I (r184, 3)
def sm_22 : sv_SM := (248, 1, 0, [.inr (some 184), .inl (2147483651, 2147483651, 0, 0, 0)], [], [], [(some (.inl (2147483648, 2147483847, 0, 0, 0)), [], [])])
set_option maxRecDepth 1000000 in
theorem sm_22_ok : sv_valid sg sm_22 := sv_main (S := []) (na := 2) (cut := []) (cs := []) (N := 1) sv_nv (by decide +kernel)
-- HungerDaysModel.bitOf(II)Z ([MIN,MAX], 4)
def sm_23 : sv_SM := (245, 1, 0, [.inl (0, 4294967295, 0, 0, 0), .inl (2147483652, 2147483652, 0, 0, 0)], [], [], [(some (.inl (2147483649, 2147483649, 0, 0, 0)), [], []), (some (.inl (2147483648, 2147483648, 0, 0, 0)), [], [])])
set_option maxRecDepth 1000000 in
theorem sm_23_ok : sv_valid sg sm_23 := sv_main (S := []) (na := 2) (cut := []) (cs := []) (N := 1) sv_nv (by decide +kernel)
-- HungerDaysModel.dateOf(I)I (r184, [2,4])
def sm_24 : sv_SM := (248, 1, 0, [.inr (some 184), .inl (2147483650, 2147483652, 0, 0, 0)], [], [], [(some (.inl (2147483648, 2147483847, 0, 0, 0)), [], [])])
set_option maxRecDepth 1000000 in
theorem sm_24_ok : sv_valid sg sm_24 := sv_main (S := []) (na := 2) (cut := []) (cs := []) (N := 1) sv_nv (by decide +kernel)
-- HungerDaysModel.dateOf(I)I (r184, [3,4])
def sm_25 : sv_SM := (248, 1, 0, [.inr (some 184), .inl (2147483651, 2147483652, 0, 0, 0)], [], [], [(some (.inl (2147483648, 2147483847, 0, 0, 0)), [], [])])
set_option maxRecDepth 1000000 in
theorem sm_25_ok : sv_valid sg sm_25 := sv_main (S := []) (na := 2) (cut := []) (cs := []) (N := 1) sv_nv (by decide +kernel)
-- HungerDaysModel.dateOf(I)I (r184, 4)
def sm_26 : sv_SM := (248, 1, 0, [.inr (some 184), .inl (2147483652, 2147483652, 0, 0, 0)], [], [], [(some (.inl (2147483648, 2147483847, 0, 0, 0)), [], [])])
set_option maxRecDepth 1000000 in
theorem sm_26_ok : sv_valid sg sm_26 := sv_main (S := []) (na := 2) (cut := []) (cs := []) (N := 1) sv_nv (by decide +kernel)
-- HungerDaysModel.bitOf(II)Z ([MIN,MAX], 5)
def sm_27 : sv_SM := (245, 1, 0, [.inl (0, 4294967295, 0, 0, 0), .inl (2147483653, 2147483653, 0, 0, 0)], [], [], [(some (.inl (2147483649, 2147483649, 0, 0, 0)), [], []), (some (.inl (2147483648, 2147483648, 0, 0, 0)), [], [])])
set_option maxRecDepth 1000000 in
theorem sm_27_ok : sv_valid sg sm_27 := sv_main (S := []) (na := 2) (cut := []) (cs := []) (N := 1) sv_nv (by decide +kernel)
-- HungerDaysModel.dateOf(I)I (r184, [2,5])
def sm_28 : sv_SM := (248, 1, 0, [.inr (some 184), .inl (2147483650, 2147483653, 0, 0, 0)], [], [], [(some (.inl (2147483648, 2147483847, 0, 0, 0)), [], [])])
set_option maxRecDepth 1000000 in
theorem sm_28_ok : sv_valid sg sm_28 := sv_main (S := []) (na := 2) (cut := []) (cs := []) (N := 1) sv_nv (by decide +kernel)
-- HungerDaysModel.dateOf(I)I (r184, [3,5])
def sm_29 : sv_SM := (248, 1, 0, [.inr (some 184), .inl (2147483651, 2147483653, 0, 0, 0)], [], [], [(some (.inl (2147483648, 2147483847, 0, 0, 0)), [], [])])
set_option maxRecDepth 1000000 in
theorem sm_29_ok : sv_valid sg sm_29 := sv_main (S := []) (na := 2) (cut := []) (cs := []) (N := 1) sv_nv (by decide +kernel)
-- HungerDaysModel.dateOf(I)I (r184, [4,5])
def sm_30 : sv_SM := (248, 1, 0, [.inr (some 184), .inl (2147483652, 2147483653, 0, 0, 0)], [], [], [(some (.inl (2147483648, 2147483847, 0, 0, 0)), [], [])])
set_option maxRecDepth 1000000 in
theorem sm_30_ok : sv_valid sg sm_30 := sv_main (S := []) (na := 2) (cut := []) (cs := []) (N := 1) sv_nv (by decide +kernel)
-- HungerDaysModel.dateOf(I)I (r184, 5)
def sm_31 : sv_SM := (248, 1, 0, [.inr (some 184), .inl (2147483653, 2147483653, 0, 0, 0)], [], [], [(some (.inl (2147483648, 2147483847, 0, 0, 0)), [], [])])
set_option maxRecDepth 1000000 in
theorem sm_31_ok : sv_valid sg sm_31 := sv_main (S := []) (na := 2) (cut := []) (cs := []) (N := 1) sv_nv (by decide +kernel)
-- HungerDaysModel.dates(I)I (r184, [MIN,MAX])
def sm_32 : sv_SM := (249, 2, 0, [.inr (some 184), .inl (0, 4294967295, 0, 0, 0)], [], [], [(some (.inl (0, 4294967295, 0, 0, 0)), [], [])])
set_option maxRecDepth 1000000 in
theorem sm_32_ok : sv_valid sg sm_32 := sv_main (S := [sm_1, sm_3, sm_16, sm_17, sm_4, sm_28, sm_18, sm_19, sm_29, sm_20, sm_22, sm_30, sm_23, sm_26, sm_31, sm_27]) (na := 2) (cut := [4, 24]) (cs := [(4, 1, 1, 0, [some (.inr (some 184)), some (.inl (0, 4294967295, 0, 0, 0)), some (.inl (2147483648, 2147483648, 0, 0, 0)), some (.inl (2147483648, 2147483648, 0, 0, 0)), none, none], [], []), (24, 2, 2, 7, [some (.inr (some 184)), some (.inl (0, 4294967295, 0, 0, 0)), some (.inl (0, 4294967295, 0, 0, 0)), some (.inl (2147483648, 2147483653, 0, 0, 0)), some (.inl (2147483648, 2147483649, 0, 0, 0)), some (.inl (2147483648, 2147483648, 0, 0, 0))], [], []), (24, 3, 2, 0, [some (.inr (some 184)), some (.inl (0, 4294967295, 0, 0, 0)), some (.inl (0, 4294967295, 0, 0, 0)), some (.inl (2147483649, 2147483653, 0, 1, 0)), some (.inl (2147483648, 2147483649, 0, 0, 0)), some (.inl (2147483649, 2147483649, 0, 0, 0))], [], []), (4, 4, 2, 0, [some (.inr (some 184)), some (.inl (0, 4294967295, 0, 0, 0)), some (.inl (0, 4294967295, 0, 0, 0)), some (.inl (2147483649, 2147483649, 0, 2, 0)), some (.inl (2147483648, 2147483649, 0, 0, 0)), some (.inl (2147483648, 2147483648, 0, 0, 0))], [], []), (4, 5, 2, 0, [some (.inr (some 184)), some (.inl (0, 4294967295, 0, 0, 0)), some (.inl (0, 4294967295, 0, 0, 0)), some (.inl (2147483650, 2147483650, 0, 2, 0)), some (.inl (2147483648, 2147483649, 0, 0, 0)), some (.inl (2147483649, 2147483649, 0, 0, 0))], [], []), (24, 6, 2, 0, [some (.inr (some 184)), some (.inl (0, 4294967295, 0, 0, 0)), some (.inl (0, 4294967295, 0, 0, 0)), some (.inl (2147483650, 2147483653, 0, 1, 0)), some (.inl (2147483648, 2147483649, 0, 0, 0)), some (.inl (2147483650, 2147483650, 0, 0, 0))], [], []), (4, 7, 2, 0, [some (.inr (some 184)), some (.inl (0, 4294967295, 0, 0, 0)), some (.inl (0, 4294967295, 0, 0, 0)), some (.inl (2147483651, 2147483651, 0, 2, 0)), some (.inl (2147483648, 2147483649, 0, 0, 0)), some (.inl (2147483650, 2147483650, 0, 0, 0))], [], []), (24, 8, 2, 0, [some (.inr (some 184)), some (.inl (0, 4294967295, 0, 0, 0)), some (.inl (0, 4294967295, 0, 0, 0)), some (.inl (2147483651, 2147483653, 0, 1, 0)), some (.inl (2147483648, 2147483649, 0, 0, 0)), some (.inl (2147483651, 2147483651, 0, 0, 0))], [], []), (4, 9, 2, 0, [some (.inr (some 184)), some (.inl (0, 4294967295, 0, 0, 0)), some (.inl (0, 4294967295, 0, 0, 0)), some (.inl (2147483652, 2147483652, 0, 2, 0)), some (.inl (2147483648, 2147483649, 0, 0, 0)), some (.inl (2147483651, 2147483651, 0, 0, 0))], [], []), (24, 10, 2, 0, [some (.inr (some 184)), some (.inl (0, 4294967295, 0, 0, 0)), some (.inl (0, 4294967295, 0, 0, 0)), some (.inl (2147483652, 2147483653, 0, 1, 0)), some (.inl (2147483648, 2147483649, 0, 0, 0)), some (.inl (2147483652, 2147483652, 0, 0, 0))], [], []), (4, 11, 2, 0, [some (.inr (some 184)), some (.inl (0, 4294967295, 0, 0, 0)), some (.inl (0, 4294967295, 0, 0, 0)), some (.inl (2147483653, 2147483653, 0, 2, 0)), some (.inl (2147483648, 2147483649, 0, 0, 0)), some (.inl (2147483652, 2147483652, 0, 0, 0))], [], []), (24, 12, 12, 0, [some (.inr (some 184)), some (.inl (0, 4294967295, 0, 0, 0)), some (.inl (0, 4294967295, 0, 0, 0)), some (.inl (2147483653, 2147483653, 0, 0, 0)), some (.inl (2147483648, 2147483649, 0, 0, 0)), some (.inl (2147483653, 2147483653, 0, 0, 0))], [], []), (4, 13, 13, 0, [some (.inr (some 184)), some (.inl (0, 4294967295, 0, 0, 0)), some (.inl (0, 4294967295, 0, 0, 0)), some (.inl (2147483654, 2147483654, 0, 0, 0)), some (.inl (2147483648, 2147483649, 0, 0, 0)), some (.inl (2147483653, 2147483653, 0, 0, 0))], [], [])]) (N := 14) (sv_cv sm_1_ok (sv_cv sm_3_ok (sv_cv sm_16_ok (sv_cv sm_17_ok (sv_cv sm_4_ok (sv_cv sm_28_ok (sv_cv sm_18_ok (sv_cv sm_19_ok (sv_cv sm_29_ok (sv_cv sm_20_ok (sv_cv sm_22_ok (sv_cv sm_30_ok (sv_cv sm_23_ok (sv_cv sm_26_ok (sv_cv sm_31_ok (sv_cv sm_27_ok sv_nv)))))))))))))))) (by decide +kernel)
-- HungerDaysModel.isName()Z (r184)
def sm_33 : sv_SM := (262, 1, 0, [.inr (some 184)], [], [], [(some (.inl (2147483648, 2147483649, 0, 0, 0)), [], [])])
set_option maxRecDepth 1000000 in
theorem sm_33_ok : sv_valid sg sm_33 := sv_main (S := []) (na := 1) (cut := [16]) (cs := [(16, 1, 1, 5, [some (.inr (some 184)), some (.inl (2147483648, 2147483649, 0, 0, 0)), some (.inl (2147483648, 2147483670, 0, 0, 0))], [], [])]) (N := 2) sv_nv (by decide +kernel)
-- HungerDaysModel.isIn(III)Z ([MIN,MAX], 0, [-1,5])
def sm_34 : sv_SM := (115, 1, 0, [.inl (0, 4294967295, 0, 0, 0), .inl (2147483648, 2147483648, 0, 0, 0), .inl (2147483647, 2147483653, 0, 0, 0)], [], [], [(some (.inl (2147483649, 2147483649, 0, 0, 0)), [.inl (2147483648, 2147483653, 0, 0, 0), .inl (2147483648, 2147483648, 0, 0, 0), .inl (2147483648, 2147483653, 0, 0, 0)], []), (some (.inl (2147483648, 2147483648, 0, 0, 0)), [], [])])
set_option maxRecDepth 1000000 in
theorem sm_34_ok : sv_valid sg sm_34 := sv_main (S := []) (na := 3) (cut := []) (cs := []) (N := 1) sv_nv (by decide +kernel)
-- HungerDaysModel.isPerson(I)Z (r184, [MIN,MAX])
def sm_35 : sv_SM := (117, 2, 0, [.inr (some 184), .inl (0, 4294967295, 0, 0, 0)], [], [], [(some (.inl (2147483648, 2147483648, 0, 0, 0)), [], []), (some (.inl (2147483649, 2147483649, 0, 0, 0)), [.inr (some 184), .inl (2147483648, 2147483653, 0, 0, 0)], [])])
set_option maxRecDepth 1000000 in
theorem sm_35_ok : sv_valid sg sm_35 := sv_main (S := [sm_34]) (na := 2) (cut := []) (cs := []) (N := 1) (sv_cv sm_34_ok sv_nv) (by decide +kernel)
-- HungerDaysModel.isIn(III)Z ([MIN,MAX], 0, 7)
def sm_36 : sv_SM := (115, 1, 0, [.inl (0, 4294967295, 0, 0, 0), .inl (2147483648, 2147483648, 0, 0, 0), .inl (2147483655, 2147483655, 0, 0, 0)], [], [], [(some (.inl (2147483649, 2147483649, 0, 0, 0)), [.inl (2147483648, 2147483655, 0, 0, 0)], []), (some (.inl (2147483648, 2147483648, 0, 0, 0)), [], [])])
set_option maxRecDepth 1000000 in
theorem sm_36_ok : sv_valid sg sm_36 := sv_main (S := []) (na := 3) (cut := []) (cs := []) (N := 1) sv_nv (by decide +kernel)
-- HungerDaysModel.throwsIf(Z)Z (r184, 1)
def sm_37 : sv_SM := (160, 1, 0, [.inr (some 184), .inl (2147483649, 2147483649, 0, 0, 0)], [], [(184, 0, 0)], [(some (.inl (2147483649, 2147483649, 0, 0, 0)), [], [])])
set_option maxRecDepth 1000000 in
theorem sm_37_ok : sv_valid sg sm_37 := sv_main (S := []) (na := 2) (cut := []) (cs := []) (N := 1) sv_nv (by decide +kernel)
-- HungerDaysModel.throwsIf(Z)Z (r184, 0)
def sm_38 : sv_SM := (160, 1, 0, [.inr (some 184), .inl (2147483648, 2147483648, 0, 0, 0)], [], [(184, 0, 0)], [(some (.inl (2147483648, 2147483648, 0, 0, 0)), [], [])])
set_option maxRecDepth 1000000 in
theorem sm_38_ok : sv_valid sg sm_38 := sv_main (S := []) (na := 2) (cut := []) (cs := []) (N := 1) sv_nv (by decide +kernel)
-- HungerDaysModel.isSick(I)Z (r184, [0,5])
def sm_39 : sv_SM := (267, 2, 0, [.inr (some 184), .inl (2147483648, 2147483653, 0, 0, 0)], [], [], [(some (.inl (2147483648, 2147483648, 0, 0, 0)), [], []), (some (.inl (2147483649, 2147483649, 0, 0, 0)), [], [])])
set_option maxRecDepth 1000000 in
theorem sm_39_ok : sv_valid sg sm_39 := sv_main (S := [sm_14]) (na := 2) (cut := []) (cs := []) (N := 1) (sv_cv sm_14_ok sv_nv) (by decide +kernel)
-- HungerDaysModel.dateOf(I)I (r184, [0,5])
def sm_40 : sv_SM := (248, 1, 0, [.inr (some 184), .inl (2147483648, 2147483653, 0, 0, 0)], [], [], [(some (.inl (2147483648, 2147483847, 0, 0, 0)), [], [])])
set_option maxRecDepth 1000000 in
theorem sm_40_ok : sv_valid sg sm_40 := sv_main (S := []) (na := 2) (cut := []) (cs := []) (N := 1) sv_nv (by decide +kernel)
-- HungerDaysModel.isPaid(I)Z (r184, 0)
def sm_41 : sv_SM := (264, 1, 0, [.inr (some 184), .inl (2147483648, 2147483648, 0, 0, 0)], [], [], [(some (.inl (2147483649, 2147483649, 0, 0, 0)), [], []), (some (.inl (2147483648, 2147483648, 0, 0, 0)), [], [])])
set_option maxRecDepth 1000000 in
theorem sm_41_ok : sv_valid sg sm_41 := sv_main (S := []) (na := 2) (cut := []) (cs := []) (N := 1) sv_nv (by decide +kernel)
-- HungerDaysModel.isPaid(I)Z (r184, [0,1])
def sm_42 : sv_SM := (264, 1, 0, [.inr (some 184), .inl (2147483648, 2147483649, 0, 0, 0)], [], [], [(some (.inl (2147483649, 2147483649, 0, 0, 0)), [], []), (some (.inl (2147483648, 2147483648, 0, 0, 0)), [], [])])
set_option maxRecDepth 1000000 in
theorem sm_42_ok : sv_valid sg sm_42 := sv_main (S := []) (na := 2) (cut := []) (cs := []) (N := 1) sv_nv (by decide +kernel)
-- HungerDaysModel.isPaid(I)Z (r184, [0,2])
def sm_43 : sv_SM := (264, 1, 0, [.inr (some 184), .inl (2147483648, 2147483650, 0, 0, 0)], [], [], [(some (.inl (2147483649, 2147483649, 0, 0, 0)), [], []), (some (.inl (2147483648, 2147483648, 0, 0, 0)), [], [])])
set_option maxRecDepth 1000000 in
theorem sm_43_ok : sv_valid sg sm_43 := sv_main (S := []) (na := 2) (cut := []) (cs := []) (N := 1) sv_nv (by decide +kernel)
-- HungerDaysModel.isPaid(I)Z (r184, [0,3])
def sm_44 : sv_SM := (264, 1, 0, [.inr (some 184), .inl (2147483648, 2147483651, 0, 0, 0)], [], [], [(some (.inl (2147483649, 2147483649, 0, 0, 0)), [], []), (some (.inl (2147483648, 2147483648, 0, 0, 0)), [], [])])
set_option maxRecDepth 1000000 in
theorem sm_44_ok : sv_valid sg sm_44 := sv_main (S := []) (na := 2) (cut := []) (cs := []) (N := 1) sv_nv (by decide +kernel)
-- HungerDaysModel.isPaid(I)Z (r184, [0,4])
def sm_45 : sv_SM := (264, 1, 0, [.inr (some 184), .inl (2147483648, 2147483652, 0, 0, 0)], [], [], [(some (.inl (2147483649, 2147483649, 0, 0, 0)), [], []), (some (.inl (2147483648, 2147483648, 0, 0, 0)), [], [])])
set_option maxRecDepth 1000000 in
theorem sm_45_ok : sv_valid sg sm_45 := sv_main (S := []) (na := 2) (cut := []) (cs := []) (N := 1) sv_nv (by decide +kernel)
-- HungerDaysModel.isPaid(I)Z (r184, [0,5])
def sm_46 : sv_SM := (264, 1, 0, [.inr (some 184), .inl (2147483648, 2147483653, 0, 0, 0)], [], [], [(some (.inl (2147483649, 2147483649, 0, 0, 0)), [], []), (some (.inl (2147483648, 2147483648, 0, 0, 0)), [], [])])
set_option maxRecDepth 1000000 in
theorem sm_46_ok : sv_valid sg sm_46 := sv_main (S := []) (na := 2) (cut := []) (cs := []) (N := 1) sv_nv (by decide +kernel)
-- HungerDaysModel.isPaid(I)Z (r184, [0,6])
def sm_47 : sv_SM := (264, 1, 0, [.inr (some 184), .inl (2147483648, 2147483654, 0, 0, 0)], [], [], [(some (.inl (2147483649, 2147483649, 0, 0, 0)), [], []), (some (.inl (2147483648, 2147483648, 0, 0, 0)), [], [])])
set_option maxRecDepth 1000000 in
theorem sm_47_ok : sv_valid sg sm_47 := sv_main (S := []) (na := 2) (cut := []) (cs := []) (N := 1) sv_nv (by decide +kernel)
-- HungerDaysModel.isPaid(I)Z (r184, [0,7])
def sm_48 : sv_SM := (264, 1, 0, [.inr (some 184), .inl (2147483648, 2147483655, 0, 0, 0)], [], [], [(some (.inl (2147483649, 2147483649, 0, 0, 0)), [], []), (some (.inl (2147483648, 2147483648, 0, 0, 0)), [], [])])
set_option maxRecDepth 1000000 in
theorem sm_48_ok : sv_valid sg sm_48 := sv_main (S := []) (na := 2) (cut := []) (cs := []) (N := 1) sv_nv (by decide +kernel)
-- HungerDaysModel.isPaid(I)Z (r184, [0,8])
def sm_49 : sv_SM := (264, 1, 0, [.inr (some 184), .inl (2147483648, 2147483656, 0, 0, 0)], [], [], [(some (.inl (2147483649, 2147483649, 0, 0, 0)), [], []), (some (.inl (2147483648, 2147483648, 0, 0, 0)), [], [])])
set_option maxRecDepth 1000000 in
theorem sm_49_ok : sv_valid sg sm_49 := sv_main (S := []) (na := 2) (cut := []) (cs := []) (N := 1) sv_nv (by decide +kernel)
-- HungerDaysModel.isPaid(I)Z (r184, [0,9])
def sm_50 : sv_SM := (264, 1, 0, [.inr (some 184), .inl (2147483648, 2147483657, 0, 0, 0)], [], [], [(some (.inl (2147483649, 2147483649, 0, 0, 0)), [], []), (some (.inl (2147483648, 2147483648, 0, 0, 0)), [], [])])
set_option maxRecDepth 1000000 in
theorem sm_50_ok : sv_valid sg sm_50 := sv_main (S := []) (na := 2) (cut := []) (cs := []) (N := 1) sv_nv (by decide +kernel)
-- HungerDaysModel.owes(I)I (r184, [0,5])
def sm_51 : sv_SM := (278, 2, 0, [.inr (some 184), .inl (2147483648, 2147483653, 0, 0, 0)], [], [], [(some (.inl (0, 4294967295, 0, 0, 0)), [], [])])
set_option maxRecDepth 1000000 in
theorem sm_51_ok : sv_valid sg sm_51 := sv_main (S := [sm_50]) (na := 2) (cut := [4]) (cs := [(4, 1, 1, 7, [some (.inr (some 184)), some (.inl (2147483648, 2147483653, 0, 0, 0)), some (.inl (0, 4294967295, 0, 0, 0)), some (.inl (2147483648, 2147483658, 0, 0, 0))], [], [])]) (N := 2) (sv_cv sm_50_ok sv_nv) (by decide +kernel)
-- HungerDaysModel.person(II)I (r184, [MIN,MAX], [MIN,MAX])
def sm_52 : sv_SM := (161, 3, 0, [.inr (some 184), .inl (0, 4294967295, 0, 0, 0), .inl (0, 4294967295, 0, 0, 0)], [], [(184, 0, 0)], [(some (.inl (0, 4294967295, 0, 0, 0)), [], [])])
set_option maxRecDepth 1000000 in
theorem sm_52_ok : sv_valid sg sm_52 := sv_main (S := [sm_35, sm_36, sm_37, sm_38, sm_14, sm_39, sm_40, sm_51]) (na := 3) (cut := [37]) (cs := [(37, 1, 1, 9, [some (.inr (some 184)), some (.inl (2147483648, 2147483653, 0, 0, 0)), some (.inl (2147483648, 2147483655, 0, 0, 0)), some (.inl (0, 4294967295, 0, 0, 0)), some (.inl (2147483648, 2147483654, 0, 0, 0))], [], [])]) (N := 2) (sv_cv sm_35_ok (sv_cv sm_36_ok (sv_cv sm_37_ok (sv_cv sm_38_ok (sv_cv sm_14_ok (sv_cv sm_39_ok (sv_cv sm_40_ok (sv_cv sm_51_ok sv_nv)))))))) (by decide +kernel)
-- HungerDaysModel.sum(II)I (r184, 100, 4)
def sm_53 : sv_SM := (142, 1, 0, [.inr (some 184), .inl (2147483748, 2147483748, 0, 0, 0), .inl (2147483652, 2147483652, 0, 0, 0)], [], [], [(some (.inl (0, 4294967295, 0, 0, 0)), [], [])])
set_option maxRecDepth 1000000 in
theorem sm_53_ok : sv_valid sg sm_53 := sv_main (S := []) (na := 3) (cut := [5]) (cs := [(5, 1, 1, 9, [some (.inr (some 184)), some (.inl (2147483748, 2147483748, 0, 0, 0)), some (.inl (2147483652, 2147483652, 0, 0, 0)), some (.inl (0, 4294967295, 0, 0, 0)), some (.inl (2147483648, 2147483652, 0, 0, 0))], [], [])]) (N := 2) sv_nv (by decide +kernel)
-- HungerDaysModel.sum(II)I (r184, 88, 6)
def sm_54 : sv_SM := (142, 1, 0, [.inr (some 184), .inl (2147483736, 2147483736, 0, 0, 0), .inl (2147483654, 2147483654, 0, 0, 0)], [], [], [(some (.inl (0, 4294967295, 0, 0, 0)), [], [])])
set_option maxRecDepth 1000000 in
theorem sm_54_ok : sv_valid sg sm_54 := sv_main (S := []) (na := 3) (cut := [5]) (cs := [(5, 1, 1, 9, [some (.inr (some 184)), some (.inl (2147483736, 2147483736, 0, 0, 0)), some (.inl (2147483654, 2147483654, 0, 0, 0)), some (.inl (0, 4294967295, 0, 0, 0)), some (.inl (2147483648, 2147483654, 0, 0, 0))], [], [])]) (N := 2) sv_nv (by decide +kernel)
-- HungerDaysModel.heldSet()I (r184)
def sm_55 : sv_SM := (109, 1, 0, [.inr (some 184)], [], [], [(some (.inl (0, 4294967295, 0, 0, 0)), [], [])])
set_option maxRecDepth 1000000 in
theorem sm_55_ok : sv_valid sg sm_55 := sv_main (S := []) (na := 1) (cut := [4]) (cs := [(4, 1, 1, 5, [some (.inr (some 184)), some (.inl (0, 4294967295, 0, 0, 0)), some (.inl (2147483648, 2147483654, 0, 0, 0))], [], [])]) (N := 2) sv_nv (by decide +kernel)
-- HungerDaysModel.isWinter(I)Z (r184, [0,600])
def sm_56 : sv_SM := (119, 1, 0, [.inr (some 184), .inl (2147483648, 2147484248, 0, 0, 0)], [], [], [(some (.inl (2147483649, 2147483649, 0, 0, 0)), [], []), (some (.inl (2147483648, 2147483648, 0, 0, 0)), [], [])])
set_option maxRecDepth 1000000 in
theorem sm_56_ok : sv_valid sg sm_56 := sv_main (S := []) (na := 2) (cut := []) (cs := []) (N := 1) sv_nv (by decide +kernel)
-- HungerDaysModel.now(I)I (r184, [MIN,MAX])
def sm_57 : sv_SM := (130, 2, 0, [.inr (some 184), .inl (0, 4294967295, 0, 0, 0)], [], [(184, 0, 0)], [(some (.inl (0, 4294967295, 0, 0, 0)), [.inr (some 184), .inl (2147483648, 2147483655, 0, 0, 0)], []), (some (.inl (2147483647, 2147483647, 0, 0, 0)), [], [])])
set_option maxRecDepth 1000000 in
theorem sm_57_ok : sv_valid sg sm_57 := sv_main (S := [sm_50, sm_53, sm_54, sm_55, sm_56]) (na := 2) (cut := [9]) (cs := [(9, 1, 1, 7, [some (.inr (some 184)), some (.inl (0, 4294967295, 0, 0, 0)), some (.inl (0, 4294967295, 0, 0, 0)), some (.inl (2147483648, 2147483658, 0, 0, 0))], [], [])]) (N := 2) (sv_cv sm_50_ok (sv_cv sm_53_ok (sv_cv sm_54_ok (sv_cv sm_55_ok (sv_cv sm_56_ok sv_nv))))) (by decide +kernel)
-- HungerDaysModel.clash(I)I (r184, [MIN,MAX])
def sm_58 : sv_SM := (97, 2, 0, [.inr (some 184), .inl (0, 4294967295, 0, 0, 0)], [], [(184, 0, 0)], [(some (.inl (2147483647, 2147483647, 0, 0, 0)), [], []), (some (.inl (0, 4294967295, 0, 0, 0)), [.inr (some 184), .inl (2147483647, 4294967295, 0, 0, 0)], [])])
set_option maxRecDepth 1000000 in
theorem sm_58_ok : sv_valid sg sm_58 := sv_main (S := [sm_50, sm_40]) (na := 2) (cut := [16]) (cs := [(16, 1, 1, 7, [some (.inr (some 184)), some (.inl (2147483647, 4294967295, 0, 0, 0)), some (.inl (0, 4294967295, 0, 0, 0)), some (.inl (2147483648, 2147483658, 0, 0, 0))], [], [])]) (N := 2) (sv_cv sm_50_ok (sv_cv sm_40_ok sv_nv)) (by decide +kernel)
-- HungerDaysModel.isSick(I)Z (r184, 0)
def sm_59 : sv_SM := (267, 2, 0, [.inr (some 184), .inl (2147483648, 2147483648, 0, 0, 0)], [], [], [(some (.inl (2147483648, 2147483648, 0, 0, 0)), [], []), (some (.inl (2147483649, 2147483649, 0, 0, 0)), [], [])])
set_option maxRecDepth 1000000 in
theorem sm_59_ok : sv_valid sg sm_59 := sv_main (S := [sm_1]) (na := 2) (cut := []) (cs := []) (N := 1) (sv_cv sm_1_ok sv_nv) (by decide +kernel)
-- HungerDaysModel.isSick(I)Z (r184, [0,1])
def sm_60 : sv_SM := (267, 2, 0, [.inr (some 184), .inl (2147483648, 2147483649, 0, 0, 0)], [], [], [(some (.inl (2147483648, 2147483648, 0, 0, 0)), [], []), (some (.inl (2147483649, 2147483649, 0, 0, 0)), [], [])])
set_option maxRecDepth 1000000 in
theorem sm_60_ok : sv_valid sg sm_60 := sv_main (S := [sm_2]) (na := 2) (cut := []) (cs := []) (N := 1) (sv_cv sm_2_ok sv_nv) (by decide +kernel)
-- HungerDaysModel.isSick(I)Z (r184, [0,2])
def sm_61 : sv_SM := (267, 2, 0, [.inr (some 184), .inl (2147483648, 2147483650, 0, 0, 0)], [], [], [(some (.inl (2147483648, 2147483648, 0, 0, 0)), [], []), (some (.inl (2147483649, 2147483649, 0, 0, 0)), [], [])])
set_option maxRecDepth 1000000 in
theorem sm_61_ok : sv_valid sg sm_61 := sv_main (S := [sm_5]) (na := 2) (cut := []) (cs := []) (N := 1) (sv_cv sm_5_ok sv_nv) (by decide +kernel)
-- HungerDaysModel.isSick(I)Z (r184, [0,3])
def sm_62 : sv_SM := (267, 2, 0, [.inr (some 184), .inl (2147483648, 2147483651, 0, 0, 0)], [], [], [(some (.inl (2147483648, 2147483648, 0, 0, 0)), [], []), (some (.inl (2147483649, 2147483649, 0, 0, 0)), [], [])])
set_option maxRecDepth 1000000 in
theorem sm_62_ok : sv_valid sg sm_62 := sv_main (S := [sm_8]) (na := 2) (cut := []) (cs := []) (N := 1) (sv_cv sm_8_ok sv_nv) (by decide +kernel)
-- HungerDaysModel.isSick(I)Z (r184, [0,4])
def sm_63 : sv_SM := (267, 2, 0, [.inr (some 184), .inl (2147483648, 2147483652, 0, 0, 0)], [], [], [(some (.inl (2147483648, 2147483648, 0, 0, 0)), [], []), (some (.inl (2147483649, 2147483649, 0, 0, 0)), [], [])])
set_option maxRecDepth 1000000 in
theorem sm_63_ok : sv_valid sg sm_63 := sv_main (S := [sm_11]) (na := 2) (cut := []) (cs := []) (N := 1) (sv_cv sm_11_ok sv_nv) (by decide +kernel)
-- HungerDaysModel.whoHas(I)I (r184, [MIN,MAX])
def sm_64 : sv_SM := (151, 3, 0, [.inr (some 184), .inl (0, 4294967295, 0, 0, 0)], [], [], [(some (.inl (2147483648, 2147483653, 0, 0, 0)), [], []), (some (.inl (2147483647, 2147483647, 0, 0, 0)), [], [])])
set_option maxRecDepth 1000000 in
theorem sm_64_ok : sv_valid sg sm_64 := sv_main (S := [sm_39, sm_40]) (na := 2) (cut := [2]) (cs := [(2, 1, 1, 5, [some (.inr (some 184)), some (.inl (0, 4294967295, 0, 0, 0)), some (.inl (2147483648, 2147483654, 0, 0, 0))], [], [])]) (N := 2) (sv_cv sm_39_ok (sv_cv sm_40_ok sv_nv)) (by decide +kernel)
-- HungerDaysModel.usedBy(II)I (r184, [MIN,MAX], [MIN,MAX])
def sm_65 : sv_SM := (288, 1, 0, [.inr (some 184), .inl (0, 4294967295, 0, 0, 0), .inl (0, 4294967295, 0, 0, 0)], [], [], [(some (.inl (2147483647, 2147483647, 0, 0, 0)), [], []), (some (.inl (0, 4294967295, 0, 0, 0)), [], [])])
set_option maxRecDepth 1000000 in
theorem sm_65_ok : sv_valid sg sm_65 := sv_main (S := []) (na := 3) (cut := [11]) (cs := [(11, 1, 1, 13, [some (.inr (some 184)), some (.inl (0, 4294967295, 0, 0, 0)), some (.inl (0, 4294967295, 0, 0, 0)), some (.inl (0, 4294967295, 0, 0, 0)), some (.inl (0, 4294967295, 0, 0, 0)), some (.inl (0, 4294967295, 0, 0, 0)), some (.inl (2147483648, 2147483652, 0, 0, 0)), none], [], [])]) (N := 2) sv_nv (by decide +kernel)
