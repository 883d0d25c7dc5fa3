-- by program (wip/p2): summaries, checked
-- HungerDays.told(I)I (r0, [MIN,MAX])
def sm_907 : sv_SM := (44, 1, 0, [.inr (some 0), .inl (0, 4294967295, 0, 0, 0)], [], [], [(some (.inl (0, 4294967295, 0, 0, 0)), [.inr (some 0), .inl (2147483648, 2147483651, 0, 0, 0)], []), (some (.inl (2147483647, 2147483647, 0, 0, 0)), [], [])])
set_option maxRecDepth 1000000 in
theorem sm_907_ok : sv_valid sg sm_907 := sv_main (S := []) (na := 2) (cut := []) (cs := []) (sp := []) (N := 1) sv_nv (by decide +kernel)
-- HungerDays.twins(II)I (r0, [MIN,MAX], [MIN,MAX])
def sm_908 : sv_SM := (45, 4, 0, [.inr (some 0), .inl (0, 4294967295, 0, 0, 0), .inl (0, 4294967295, 0, 0, 0)], [], [(40, 1, 3), (41, 0, 15), (42, 0, 15), (43, 0, 15), (44, 0, 15), (45, 0, 15), (46, 0, 15)], [(some (.inl (2147483647, 2147483647, 0, 0, 0)), [], []), (some (.inl (0, 4294967295, 0, 0, 0)), [.inr (some 0), .inl (2147483648, 2147483653, 0, 0, 0), .inl (2147483648, 2147483653, 0, 0, 0)], [])])
set_option maxRecDepth 1000000 in
theorem sm_908_ok : sv_valid sg sm_908 := sv_main (S := [sm_579, sm_736, sm_738, sm_748, sm_769]) (na := 3) (cut := [36]) (cs := [(36, 1, 1, 7, [some (.inr (some 0)), some (.inl (2147483648, 2147483653, 0, 0, 0)), some (.inl (2147483648, 2147483653, 0, 0, 0)), some (.inl (2147483648, 2147483849, 0, 0, 0))], [], [])]) (sp := []) (N := 2) (sv_cv sm_579_ok (sv_cv sm_736_ok (sv_cv sm_738_ok (sv_cv sm_748_ok (sv_cv sm_769_ok sv_nv))))) (by decide +kernel)
-- HungerDays$State.copyFrom(LHungerDays$State;)V (r33, r98)
def sm_909 : sv_SM := (72, 1, 0, [.inr (some 33), .inr (some 98)], [], [(33, 1, 3), (34, 0, 15), (35, 0, 15), (36, 0, 15), (37, 0, 15), (38, 0, 15), (39, 0, 15)], [(none, [], [])])
set_option maxRecDepth 1000000 in
theorem sm_909_ok : sv_valid sg sm_909 := sv_main (S := []) (na := 2) (cut := []) (cs := []) (sp := []) (N := 1) sv_nv (by decide +kernel)
-- HungerDays$State.copyFrom(LHungerDays$State;)V (r33, r91)
def sm_910 : sv_SM := (72, 1, 0, [.inr (some 33), .inr (some 91)], [], [(33, 1, 3), (34, 0, 15), (35, 0, 15), (36, 0, 15), (37, 0, 15), (38, 0, 15), (39, 0, 15)], [(none, [], [])])
set_option maxRecDepth 1000000 in
theorem sm_910_ok : sv_valid sg sm_910 := sv_main (S := []) (na := 2) (cut := []) (cs := []) (sp := []) (N := 1) sv_nv (by decide +kernel)
-- HungerDays$State.copyFrom(LHungerDays$State;)V (r33, r84)
def sm_911 : sv_SM := (72, 1, 0, [.inr (some 33), .inr (some 84)], [], [(33, 1, 3), (34, 0, 15), (35, 0, 15), (36, 0, 15), (37, 0, 15), (38, 0, 15), (39, 0, 15)], [(none, [], [])])
set_option maxRecDepth 1000000 in
theorem sm_911_ok : sv_valid sg sm_911 := sv_main (S := []) (na := 2) (cut := []) (cs := []) (sp := []) (N := 1) sv_nv (by decide +kernel)
-- HungerDays$State.copyFrom(LHungerDays$State;)V (r33, r77)
def sm_912 : sv_SM := (72, 1, 0, [.inr (some 33), .inr (some 77)], [], [(33, 1, 3), (34, 0, 15), (35, 0, 15), (36, 0, 15), (37, 0, 15), (38, 0, 15), (39, 0, 15)], [(none, [], [])])
set_option maxRecDepth 1000000 in
theorem sm_912_ok : sv_valid sg sm_912 := sv_main (S := []) (na := 2) (cut := []) (cs := []) (sp := []) (N := 1) sv_nv (by decide +kernel)
-- HungerDays$State.copyFrom(LHungerDays$State;)V (r33, r70)
def sm_913 : sv_SM := (72, 1, 0, [.inr (some 33), .inr (some 70)], [], [(33, 1, 3), (34, 0, 15), (35, 0, 15), (36, 0, 15), (37, 0, 15), (38, 0, 15), (39, 0, 15)], [(none, [], [])])
set_option maxRecDepth 1000000 in
theorem sm_913_ok : sv_valid sg sm_913 := sv_main (S := []) (na := 2) (cut := []) (cs := []) (sp := []) (N := 1) sv_nv (by decide +kernel)
-- HungerDays$State.copyFrom(LHungerDays$State;)V (r33, r63)
def sm_914 : sv_SM := (72, 1, 0, [.inr (some 33), .inr (some 63)], [], [(33, 1, 3), (34, 0, 15), (35, 0, 15), (36, 0, 15), (37, 0, 15), (38, 0, 15), (39, 0, 15)], [(none, [], [])])
set_option maxRecDepth 1000000 in
theorem sm_914_ok : sv_valid sg sm_914 := sv_main (S := []) (na := 2) (cut := []) (cs := []) (sp := []) (N := 1) sv_nv (by decide +kernel)
-- HungerDays$State.copyFrom(LHungerDays$State;)V (r33, r56)
def sm_915 : sv_SM := (72, 1, 0, [.inr (some 33), .inr (some 56)], [], [(33, 1, 3), (34, 0, 15), (35, 0, 15), (36, 0, 15), (37, 0, 15), (38, 0, 15), (39, 0, 15)], [(none, [], [])])
set_option maxRecDepth 1000000 in
theorem sm_915_ok : sv_valid sg sm_915 := sv_main (S := []) (na := 2) (cut := []) (cs := []) (sp := []) (N := 1) sv_nv (by decide +kernel)
-- HungerDays$State.copyFrom(LHungerDays$State;)V (r33, r49)
def sm_916 : sv_SM := (72, 1, 0, [.inr (some 33), .inr (some 49)], [], [(33, 1, 3), (34, 0, 15), (35, 0, 15), (36, 0, 15), (37, 0, 15), (38, 0, 15), (39, 0, 15)], [(none, [], [])])
set_option maxRecDepth 1000000 in
theorem sm_916_ok : sv_valid sg sm_916 := sv_main (S := []) (na := 2) (cut := []) (cs := []) (sp := []) (N := 1) sv_nv (by decide +kernel)
-- HungerDays$History.goBack(LHungerDays$State;)Z (r47, r33)
def sm_917 : sv_SM := (54, 2, 0, [.inr (some 47), .inr (some 33)], [(770050, 2147483648, 2147483656, 0, 0)], [(33, 1, 3), (34, 0, 15), (35, 0, 15), (36, 0, 15), (37, 0, 15), (38, 0, 15), (39, 0, 15), (47, 1, 2)], [(some (.inl (2147483648, 2147483648, 0, 0, 0)), [], [(770050, 2147483648, 2147483648, 0, 0)]), (some (.inl (2147483649, 2147483649, 0, 0, 0)), [], [(770050, 2147483648, 2147483655, 0, 0)])])
set_option maxRecDepth 1000000 in
theorem sm_917_ok : sv_valid sg sm_917 := sv_main (S := [sm_909, sm_910, sm_911, sm_912, sm_913, sm_914, sm_915, sm_916]) (na := 2) (cut := []) (cs := []) (sp := []) (N := 1) (sv_cv sm_909_ok (sv_cv sm_910_ok (sv_cv sm_911_ok (sv_cv sm_912_ok (sv_cv sm_913_ok (sv_cv sm_914_ok (sv_cv sm_915_ok (sv_cv sm_916_ok sv_nv)))))))) (by decide +kernel)
-- HungerDays.undo()I (r0)
def sm_918 : sv_SM := (46, 3, 0, [.inr (some 0)], [], [(33, 1, 3), (34, 0, 15), (35, 0, 15), (36, 0, 15), (37, 0, 15), (38, 0, 15), (39, 0, 15), (47, 1, 2)], [(some (.inl (2147483648, 2147483656, 0, 0, 0)), [], []), (some (.inl (2147483647, 2147483647, 0, 0, 0)), [], [])])
set_option maxRecDepth 1000000 in
theorem sm_918_ok : sv_valid sg sm_918 := sv_main (S := [sm_917]) (na := 1) (cut := []) (cs := []) (sp := []) (N := 1) (sv_cv sm_917_ok sv_nv) (by decide +kernel)
-- HungerDays$Reader.open(II)V (r2, [0,940], 900)
def sm_919 : sv_SM := (62, 3, 0, [.inr (some 2), .inl (2147483648, 2147484588, 0, 0, 0), .inl (2147484548, 2147484548, 0, 0, 0)], [], [(2, 2, 12)], [(none, [], [])])
set_option maxRecDepth 1000000 in
theorem sm_919_ok : sv_valid sg sm_919 := sv_main (S := [sm_605]) (na := 3) (cut := []) (cs := []) (sp := []) (N := 1) (sv_cv sm_605_ok sv_nv) (by decide +kernel)
-- HungerDays.openTape(I)V (r0, 900)
def sm_920 : sv_SM := (33, 4, 0, [.inr (some 0), .inl (2147484548, 2147484548, 0, 0, 0)], [], [(0, 1, 1), (2, 2, 12)], [(none, [], [])])
set_option maxRecDepth 1000000 in
theorem sm_920_ok : sv_valid sg sm_920 := sv_main (S := [sm_919]) (na := 2) (cut := []) (cs := []) (sp := []) (N := 1) (sv_cv sm_919_ok sv_nv) (by decide +kernel)
-- HungerDays$Valley.clear()V (r18)
def sm_921 : sv_SM := (84, 1, 0, [.inr (some 18)], [], [(18, 0, 6)], [(none, [], [])])
set_option maxRecDepth 1000000 in
theorem sm_921_ok : sv_valid sg sm_921 := sv_main (S := []) (na := 1) (cut := []) (cs := []) (sp := []) (N := 1) sv_nv (by decide +kernel)
-- HungerDays$Valley.numberOf(IJ)I (r18, 0, l)
def sm_922 : sv_SM := (232, 1, 0, [.inr (some 18), .inl (2147483648, 2147483648, 0, 0, 0), .inr none], [], [], [(some (.inl (2147483648, 2147483653, 0, 0, 0)), [], []), (some (.inl (2147483647, 2147483647, 0, 0, 0)), [], [])])
set_option maxRecDepth 1000000 in
theorem sm_922_ok : sv_valid sg sm_922 := sv_main (S := []) (na := 2) (cut := [61]) (cs := [(61, 1, 1, 13, [some (.inr (some 18)), some (.inl (2147483648, 2147483648, 0, 0, 0)), some (.inr none), none, some (.inr (some 19)), some (.inl (2147483648, 2147483654, 0, 0, 0)), some (.inl (2147483648, 2147483654, 0, 0, 0))], [], [])]) (sp := []) (N := 2) sv_nv (by decide +kernel)
-- HungerDays$Reader.lookNamed(LHungerDays$Valley;I)I (r2, r18, 0)
def sm_923 : sv_SM := (186, 2, 0, [.inr (some 2), .inr (some 18), .inl (2147483648, 2147483648, 0, 0, 0)], [], [(2, 11, 12)], [(some (.inl (2147483647, 2147483647, 0, 0, 0)), [], []), (some (.inl (2147483648, 2147483653, 0, 0, 0)), [], [])])
set_option maxRecDepth 1000000 in
theorem sm_923_ok : sv_valid sg sm_923 := sv_main (S := [sm_610, sm_608, sm_922, sm_612, sm_613]) (na := 3) (cut := []) (cs := []) (sp := []) (N := 1) (sv_cv sm_610_ok (sv_cv sm_608_ok (sv_cv sm_922_ok (sv_cv sm_612_ok (sv_cv sm_613_ok sv_nv))))) (by decide +kernel)
-- HungerDays$Reader.takeNamed(LHungerDays$Valley;I)I (r2, r18, 0)
def sm_924 : sv_SM := (188, 3, 0, [.inr (some 2), .inr (some 18), .inl (2147483648, 2147483648, 0, 0, 0)], [], [(2, 4, 12)], [(some (.inl (2147483648, 2147483653, 0, 0, 0)), [], []), (some (.inl (2147483647, 2147483647, 0, 0, 0)), [], [])])
set_option maxRecDepth 1000000 in
theorem sm_924_ok : sv_valid sg sm_924 := sv_main (S := [sm_923, sm_605]) (na := 3) (cut := []) (cs := []) (sp := []) (N := 1) (sv_cv sm_923_ok (sv_cv sm_605_ok sv_nv)) (by decide +kernel)
-- HungerDays$Valley.hasDebt(II)Z (r18, [0,5], [0,5])
def sm_925 : sv_SM := (229, 1, 0, [.inr (some 18), .inl (2147483648, 2147483653, 0, 0, 0), .inl (2147483648, 2147483653, 0, 0, 0)], [], [], [(some (.inl (2147483649, 2147483649, 0, 0, 0)), [], []), (some (.inl (2147483648, 2147483648, 0, 0, 0)), [], [])])
set_option maxRecDepth 1000000 in
theorem sm_925_ok : sv_valid sg sm_925 := sv_main (S := []) (na := 3) (cut := [2]) (cs := [(2, 1, 1, 7, [some (.inr (some 18)), some (.inl (2147483648, 2147483653, 0, 0, 0)), some (.inl (2147483648, 2147483653, 0, 0, 0)), some (.inl (2147483648, 2147483658, 0, 0, 0))], [], [])]) (sp := []) (N := 2) sv_nv (by decide +kernel)
-- HungerDays$Reader.takeNumber(II)I (r2, 1, 250)
def sm_926 : sv_SM := (189, 3, 0, [.inr (some 2), .inl (2147483649, 2147483649, 0, 0, 0), .inl (2147483898, 2147483898, 0, 0, 0)], [], [(2, 4, 12)], [(some (.inl (2147483647, 2147483647, 0, 0, 0)), [], []), (some (.inl (0, 4294967295, 0, 0, 0)), [], [])])
set_option maxRecDepth 1000000 in
theorem sm_926_ok : sv_valid sg sm_926 := sv_main (S := [sm_608, sm_613, sm_605, sm_620]) (na := 3) (cut := []) (cs := []) (sp := []) (N := 1) (sv_cv sm_608_ok (sv_cv sm_613_ok (sv_cv sm_605_ok (sv_cv sm_620_ok sv_nv)))) (by decide +kernel)
-- HungerDays$Reader.takeNumber(II)I (r2, 0, 199)
def sm_927 : sv_SM := (189, 3, 0, [.inr (some 2), .inl (2147483648, 2147483648, 0, 0, 0), .inl (2147483847, 2147483847, 0, 0, 0)], [], [(2, 4, 12)], [(some (.inl (2147483647, 2147483647, 0, 0, 0)), [], []), (some (.inl (0, 4294967295, 0, 0, 0)), [], [])])
set_option maxRecDepth 1000000 in
theorem sm_927_ok : sv_valid sg sm_927 := sv_main (S := [sm_608, sm_613, sm_605, sm_620]) (na := 3) (cut := []) (cs := []) (sp := []) (N := 1) (sv_cv sm_608_ok (sv_cv sm_613_ok (sv_cv sm_605_ok (sv_cv sm_620_ok sv_nv)))) (by decide +kernel)
-- HungerDays$ValleyText.readDebt()Z (r32)
def sm_928 : sv_SM := (233, 4, 0, [.inr (some 32)], [], [(2, 4, 12), (18, 6, 6), (28, 0, 9), (29, 0, 9), (30, 0, 9), (31, 0, 9)], [(some (.inl (2147483648, 2147483648, 0, 0, 0)), [], []), (some (.inl (2147483649, 2147483649, 0, 0, 0)), [], [])])
set_option maxRecDepth 1000000 in
theorem sm_928_ok : sv_valid sg sm_928 := sv_main (S := [sm_615, sm_605, sm_924, sm_923, sm_612, sm_925, sm_926, sm_927, sm_613]) (na := 1) (cut := []) (cs := []) (sp := []) (N := 1) (sv_cv sm_615_ok (sv_cv sm_605_ok (sv_cv sm_924_ok (sv_cv sm_923_ok (sv_cv sm_612_ok (sv_cv sm_925_ok (sv_cv sm_926_ok (sv_cv sm_927_ok (sv_cv sm_613_ok sv_nv))))))))) (by decide +kernel)
-- HungerDays$Valley.numberOf(IJ)I (r18, 1, l)
def sm_929 : sv_SM := (232, 1, 0, [.inr (some 18), .inl (2147483649, 2147483649, 0, 0, 0), .inr none], [], [], [(some (.inl (2147483648, 2147483651, 0, 0, 0)), [], []), (some (.inl (2147483647, 2147483647, 0, 0, 0)), [], [])])
set_option maxRecDepth 1000000 in
theorem sm_929_ok : sv_valid sg sm_929 := sv_main (S := []) (na := 2) (cut := [61]) (cs := [(61, 1, 1, 13, [some (.inr (some 18)), some (.inl (2147483649, 2147483649, 0, 0, 0)), some (.inr none), none, some (.inr (some 20)), some (.inl (2147483648, 2147483652, 0, 0, 0)), some (.inl (2147483648, 2147483652, 0, 0, 0))], [], [])]) (sp := []) (N := 2) sv_nv (by decide +kernel)
-- HungerDays$Valley.numberOf(IJ)I (r18, 2, l)
def sm_930 : sv_SM := (232, 1, 0, [.inr (some 18), .inl (2147483650, 2147483650, 0, 0, 0), .inr none], [], [], [(some (.inl (2147483648, 2147483653, 0, 0, 0)), [], []), (some (.inl (2147483647, 2147483647, 0, 0, 0)), [], [])])
set_option maxRecDepth 1000000 in
theorem sm_930_ok : sv_valid sg sm_930 := sv_main (S := []) (na := 2) (cut := [61]) (cs := [(61, 1, 1, 13, [some (.inr (some 18)), some (.inl (2147483650, 2147483650, 0, 0, 0)), some (.inr none), none, some (.inr (some 21)), some (.inl (2147483648, 2147483654, 0, 0, 0)), some (.inl (2147483648, 2147483654, 0, 0, 0))], [], [])]) (sp := []) (N := 2) sv_nv (by decide +kernel)
-- HungerDays$Valley.hasName(J)Z (r18, l)
def sm_931 : sv_SM := (230, 2, 0, [.inr (some 18), .inr none], [], [], [(some (.inl (2147483648, 2147483648, 0, 0, 0)), [], []), (some (.inl (2147483649, 2147483649, 0, 0, 0)), [], [])])
set_option maxRecDepth 1000000 in
theorem sm_931_ok : sv_valid sg sm_931 := sv_main (S := [sm_922, sm_929, sm_930]) (na := 1) (cut := []) (cs := []) (sp := []) (N := 1) (sv_cv sm_922_ok (sv_cv sm_929_ok (sv_cv sm_930_ok sv_nv))) (by decide +kernel)
-- HungerDays$ValleyText.takeNewName()J (r32)
def sm_932 : sv_SM := (240, 3, 0, [.inr (some 32)], [], [(2, 4, 12)], [(some (.inr none), [], [])])
set_option maxRecDepth 1000000 in
theorem sm_932_ok : sv_valid sg sm_932 := sv_main (S := [sm_610, sm_608, sm_613, sm_605, sm_931, sm_612]) (na := 1) (cut := []) (cs := []) (sp := []) (N := 1) (sv_cv sm_610_ok (sv_cv sm_608_ok (sv_cv sm_613_ok (sv_cv sm_605_ok (sv_cv sm_931_ok (sv_cv sm_612_ok sv_nv)))))) (by decide +kernel)
-- HungerDays$ValleyText.readMeeting()Z (r32)
def sm_933 : sv_SM := (236, 4, 0, [.inr (some 32)], [], [(2, 4, 12), (18, 5, 5), (21, 0, 5), (27, 0, 5)], [(some (.inl (2147483648, 2147483648, 0, 0, 0)), [], []), (some (.inl (2147483649, 2147483649, 0, 0, 0)), [], [])])
set_option maxRecDepth 1000000 in
theorem sm_933_ok : sv_valid sg sm_933 := sv_main (S := [sm_615, sm_605, sm_932, sm_626, sm_923, sm_612]) (na := 1) (cut := [47]) (cs := [(47, 1, 1, 7, [some (.inr (some 32)), some (.inl (2147483648, 2147483653, 0, 0, 0)), some (.inl (0, 4294967295, 0, 0, 0)), some (.inl (2147483648, 2147483655, 0, 0, 0)), none], [], [])]) (sp := []) (N := 2) (sv_cv sm_615_ok (sv_cv sm_605_ok (sv_cv sm_932_ok (sv_cv sm_626_ok (sv_cv sm_923_ok (sv_cv sm_612_ok sv_nv)))))) (by decide +kernel)
-- HungerDays$Reader.takeNumber(II)I (r2, 0, 5)
def sm_934 : sv_SM := (189, 3, 0, [.inr (some 2), .inl (2147483648, 2147483648, 0, 0, 0), .inl (2147483653, 2147483653, 0, 0, 0)], [], [(2, 4, 12)], [(some (.inl (2147483647, 2147483647, 0, 0, 0)), [], []), (some (.inl (0, 4294967295, 0, 0, 0)), [], [])])
set_option maxRecDepth 1000000 in
theorem sm_934_ok : sv_valid sg sm_934 := sv_main (S := [sm_608, sm_613, sm_605, sm_620]) (na := 3) (cut := []) (cs := []) (sp := []) (N := 1) (sv_cv sm_608_ok (sv_cv sm_613_ok (sv_cv sm_605_ok (sv_cv sm_620_ok sv_nv)))) (by decide +kernel)
-- HungerDays$ValleyText.readFood()Z (r32)
def sm_935 : sv_SM := (234, 4, 0, [.inr (some 32)], [], [(2, 4, 12), (18, 4, 4), (20, 0, 3), (25, 0, 3), (26, 0, 3)], [(some (.inl (2147483648, 2147483648, 0, 0, 0)), [], []), (some (.inl (2147483649, 2147483649, 0, 0, 0)), [], [])])
set_option maxRecDepth 1000000 in
theorem sm_935_ok : sv_valid sg sm_935 := sv_main (S := [sm_615, sm_605, sm_932, sm_621, sm_934, sm_613]) (na := 1) (cut := []) (cs := []) (sp := []) (N := 1) (sv_cv sm_615_ok (sv_cv sm_605_ok (sv_cv sm_932_ok (sv_cv sm_621_ok (sv_cv sm_934_ok (sv_cv sm_613_ok sv_nv)))))) (by decide +kernel)
-- HungerDays$Reader.takeNumber(II)I (r2, 0, 9)
def sm_936 : sv_SM := (189, 3, 0, [.inr (some 2), .inl (2147483648, 2147483648, 0, 0, 0), .inl (2147483657, 2147483657, 0, 0, 0)], [], [(2, 4, 12)], [(some (.inl (2147483647, 2147483647, 0, 0, 0)), [], []), (some (.inl (0, 4294967295, 0, 0, 0)), [], [])])
set_option maxRecDepth 1000000 in
theorem sm_936_ok : sv_valid sg sm_936 := sv_main (S := [sm_608, sm_613, sm_605, sm_620]) (na := 3) (cut := []) (cs := []) (sp := []) (N := 1) (sv_cv sm_608_ok (sv_cv sm_613_ok (sv_cv sm_605_ok (sv_cv sm_620_ok sv_nv)))) (by decide +kernel)
-- HungerDays$ValleyText.readPerson()Z (r32)
def sm_937 : sv_SM := (237, 4, 0, [.inr (some 32)], [], [(2, 4, 12), (18, 3, 3), (19, 0, 5), (22, 0, 5), (23, 0, 5), (24, 0, 5)], [(some (.inl (2147483648, 2147483648, 0, 0, 0)), [], []), (some (.inl (2147483649, 2147483649, 0, 0, 0)), [], [])])
set_option maxRecDepth 1000000 in
theorem sm_937_ok : sv_valid sg sm_937 := sv_main (S := [sm_615, sm_605, sm_932, sm_936, sm_927, sm_859, sm_613]) (na := 1) (cut := []) (cs := []) (sp := []) (N := 1) (sv_cv sm_615_ok (sv_cv sm_605_ok (sv_cv sm_932_ok (sv_cv sm_936_ok (sv_cv sm_927_ok (sv_cv sm_859_ok (sv_cv sm_613_ok sv_nv))))))) (by decide +kernel)
-- HungerDays$Reader.takeNumber(II)I (r2, 0, 399)
def sm_938 : sv_SM := (189, 3, 0, [.inr (some 2), .inl (2147483648, 2147483648, 0, 0, 0), .inl (2147484047, 2147484047, 0, 0, 0)], [], [(2, 4, 12)], [(some (.inl (2147483647, 2147483647, 0, 0, 0)), [], []), (some (.inl (0, 4294967295, 0, 0, 0)), [], [])])
set_option maxRecDepth 1000000 in
theorem sm_938_ok : sv_valid sg sm_938 := sv_main (S := [sm_608, sm_613, sm_605, sm_620]) (na := 3) (cut := []) (cs := []) (sp := []) (N := 1) (sv_cv sm_608_ok (sv_cv sm_613_ok (sv_cv sm_605_ok (sv_cv sm_620_ok sv_nv)))) (by decide +kernel)
-- HungerDays$Reader.takeNumber(II)I (r2, 1, 200)
def sm_939 : sv_SM := (189, 3, 0, [.inr (some 2), .inl (2147483649, 2147483649, 0, 0, 0), .inl (2147483848, 2147483848, 0, 0, 0)], [], [(2, 4, 12)], [(some (.inl (2147483647, 2147483647, 0, 0, 0)), [], []), (some (.inl (0, 4294967295, 0, 0, 0)), [], [])])
set_option maxRecDepth 1000000 in
theorem sm_939_ok : sv_valid sg sm_939 := sv_main (S := [sm_608, sm_613, sm_605, sm_620]) (na := 3) (cut := []) (cs := []) (sp := []) (N := 1) (sv_cv sm_608_ok (sv_cv sm_613_ok (sv_cv sm_605_ok (sv_cv sm_620_ok sv_nv)))) (by decide +kernel)
-- HungerDays$ValleyText.readWinter()Z (r32)
def sm_940 : sv_SM := (239, 4, 0, [.inr (some 32)], [], [(2, 4, 12), (18, 1, 2), (32, 3, 3)], [(some (.inl (2147483648, 2147483648, 0, 0, 0)), [], []), (some (.inl (2147483649, 2147483649, 0, 0, 0)), [], [])])
set_option maxRecDepth 1000000 in
theorem sm_940_ok : sv_valid sg sm_940 := sv_main (S := [sm_612, sm_605, sm_938, sm_939, sm_613]) (na := 1) (cut := []) (cs := []) (sp := []) (N := 1) (sv_cv sm_612_ok (sv_cv sm_605_ok (sv_cv sm_938_ok (sv_cv sm_939_ok (sv_cv sm_613_ok sv_nv))))) (by decide +kernel)
-- HungerDays$Reader.takeNumber(II)I (r2, 1, 20)
def sm_941 : sv_SM := (189, 3, 0, [.inr (some 2), .inl (2147483649, 2147483649, 0, 0, 0), .inl (2147483668, 2147483668, 0, 0, 0)], [], [(2, 4, 12)], [(some (.inl (2147483647, 2147483647, 0, 0, 0)), [], []), (some (.inl (0, 4294967295, 0, 0, 0)), [], [])])
set_option maxRecDepth 1000000 in
theorem sm_941_ok : sv_valid sg sm_941 := sv_main (S := [sm_608, sm_613, sm_605, sm_620]) (na := 3) (cut := []) (cs := []) (sp := []) (N := 1) (sv_cv sm_608_ok (sv_cv sm_613_ok (sv_cv sm_605_ok (sv_cv sm_620_ok sv_nv)))) (by decide +kernel)
-- HungerDays$ValleyText.readSpan()Z (r32)
def sm_942 : sv_SM := (238, 4, 0, [.inr (some 32)], [], [(2, 4, 12), (18, 0, 0), (32, 2, 2)], [(some (.inl (2147483648, 2147483648, 0, 0, 0)), [], []), (some (.inl (2147483649, 2147483649, 0, 0, 0)), [], [])])
set_option maxRecDepth 1000000 in
theorem sm_942_ok : sv_valid sg sm_942 := sv_main (S := [sm_612, sm_605, sm_941, sm_613]) (na := 1) (cut := []) (cs := []) (sp := []) (N := 1) (sv_cv sm_612_ok (sv_cv sm_605_ok (sv_cv sm_941_ok (sv_cv sm_613_ok sv_nv)))) (by decide +kernel)
-- HungerDays$ValleyText.readLine()Z (r32)
def sm_943 : sv_SM := (235, 5, 0, [.inr (some 32)], [], [(2, 4, 12), (18, 0, 6), (19, 0, 5), (20, 0, 3), (21, 0, 5), (22, 0, 5), (23, 0, 5), (24, 0, 5), (25, 0, 3), (26, 0, 3), (27, 0, 5), (28, 0, 9), (29, 0, 9), (30, 0, 9), (31, 0, 9), (32, 2, 3)], [(some (.inl (2147483649, 2147483649, 0, 0, 0)), [], []), (some (.inl (2147483648, 2147483648, 0, 0, 0)), [], [])])
set_option maxRecDepth 1000000 in
theorem sm_943_ok : sv_valid sg sm_943 := sv_main (S := [sm_928, sm_933, sm_935, sm_937, sm_940, sm_942, sm_608]) (na := 1) (cut := []) (cs := []) (sp := []) (N := 1) (sv_cv sm_928_ok (sv_cv sm_933_ok (sv_cv sm_935_ok (sv_cv sm_937_ok (sv_cv sm_940_ok (sv_cv sm_942_ok (sv_cv sm_608_ok sv_nv))))))) (by decide +kernel)
-- HungerDays$ValleyText.readAll()I (r32)
def sm_944 : sv_SM := (88, 6, 0, [.inr (some 32)], [], [(2, 4, 12), (18, 0, 6), (19, 0, 5), (20, 0, 3), (21, 0, 5), (22, 0, 5), (23, 0, 5), (24, 0, 5), (25, 0, 3), (26, 0, 3), (27, 0, 5), (28, 0, 9), (29, 0, 9), (30, 0, 9), (31, 0, 9), (32, 2, 3)], [(some (.inl (2147483648, 2147484548, 0, 0, 0)), [], []), (some (.inl (2147483647, 2147483647, 0, 0, 0)), [], [])])
set_option maxRecDepth 1000000 in
theorem sm_944_ok : sv_valid sg sm_944 := sv_main (S := [sm_921, sm_609, sm_943, sm_627]) (na := 1) (cut := [19]) (cs := [(19, 1, 1, 3, [some (.inr (some 32)), some (.inl (2147483648, 2147484549, 0, 0, 0))], [], [])]) (sp := []) (N := 2) (sv_cv sm_921_ok (sv_cv sm_609_ok (sv_cv sm_943_ok (sv_cv sm_627_ok sv_nv)))) (by decide +kernel)
-- HungerDays$Valley.copyFrom(LHungerDays$Valley;)V (r4, r18)
def sm_945 : sv_SM := (85, 1, 0, [.inr (some 4), .inr (some 18)], [], [(4, 0, 6), (5, 0, 15), (6, 0, 15), (7, 0, 15), (8, 0, 15), (9, 0, 15), (10, 0, 15), (11, 0, 15), (12, 0, 15), (13, 0, 15), (14, 0, 15), (15, 0, 15), (16, 0, 15), (17, 0, 15)], [(none, [], [])])
set_option maxRecDepth 1000000 in
theorem sm_945_ok : sv_valid sg sm_945 := sv_main (S := []) (na := 2) (cut := []) (cs := []) (sp := []) (N := 1) sv_nv (by decide +kernel)
-- HungerDays$State.begin()V (r33)
def sm_946 : sv_SM := (71, 1, 0, [.inr (some 33)], [], [(33, 1, 3), (34, 0, 5), (35, 0, 5), (36, 0, 5), (37, 0, 3), (38, 0, 5), (39, 0, 9)], [(none, [], [])])
set_option maxRecDepth 1000000 in
theorem sm_946_ok : sv_valid sg sm_946 := sv_main (S := []) (na := 1) (cut := [17, 68, 96, 117]) (cs := [(17, 1, 1, 3, [some (.inr (some 33)), some (.inl (2147483648, 2147483654, 0, 0, 0))], [], []), (68, 2, 2, 3, [some (.inr (some 33)), some (.inl (2147483648, 2147483652, 0, 0, 0))], [], []), (96, 3, 3, 3, [some (.inr (some 33)), some (.inl (2147483648, 2147483654, 0, 0, 0))], [], []), (117, 4, 4, 3, [some (.inr (some 33)), some (.inl (2147483648, 2147483658, 0, 0, 0))], [], [])]) (sp := []) (N := 5) sv_nv (by decide +kernel)
-- HungerDays$Sentence.forget()V (r106)
def sm_947 : sv_SM := (66, 1, 0, [.inr (some 106)], [], [(106, 0, 1)], [(none, [], [])])
set_option maxRecDepth 1000000 in
theorem sm_947_ok : sv_valid sg sm_947 := sv_main (S := []) (na := 1) (cut := []) (cs := []) (sp := []) (N := 1) sv_nv (by decide +kernel)
-- HungerDays.valley()I (r0)
def sm_948 : sv_SM := (47, 7, 0, [.inr (some 0)], [], [(0, 1, 1), (0, 3, 3), (2, 2, 12), (4, 0, 6), (5, 0, 15), (6, 0, 15), (7, 0, 15), (8, 0, 15), (9, 0, 15), (10, 0, 15), (11, 0, 15), (12, 0, 15), (13, 0, 15), (14, 0, 15), (15, 0, 15), (16, 0, 15), (17, 0, 15), (18, 0, 6), (19, 0, 5), (20, 0, 3), (21, 0, 5), (22, 0, 5), (23, 0, 5), (24, 0, 5), (25, 0, 3), (26, 0, 3), (27, 0, 5), (28, 0, 9), (29, 0, 9), (30, 0, 9), (31, 0, 9), (32, 2, 3), (33, 1, 3), (34, 0, 5), (35, 0, 5), (36, 0, 5), (37, 0, 3), (38, 0, 5), (39, 0, 9), (47, 2, 2), (106, 0, 1)], [(some (.inl (0, 4294967295, 0, 0, 0)), [], [])])
set_option maxRecDepth 1000000 in
theorem sm_948_ok : sv_valid sg sm_948 := sv_main (S := [sm_920, sm_944, sm_945, sm_946, sm_947, sm_835]) (na := 1) (cut := []) (cs := []) (sp := []) (N := 1) (sv_cv sm_920_ok (sv_cv sm_944_ok (sv_cv sm_945_ok (sv_cv sm_946_ok (sv_cv sm_947_ok (sv_cv sm_835_ok sv_nv)))))) (by decide +kernel)
