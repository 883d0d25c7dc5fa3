-- by program (wip/p2/genmore2.py): summaries, checked
-- HungerDays$State.whyNotAil(I)I (r40, [0,5])
def sm_215_afa9fe39 : sv_SM := (215, 2, 0, [.inr (some 40), .inl (2147483648, 2147483653, 0, 0, 0)], [], [], [(some (.inl (2147483648, 2147483649, 0, 0, 0)), [], [])])
set_option maxRecDepth 1000000 in
theorem sm_215_afa9fe39_ok : sv_valid sg sm_215_afa9fe39 := sv_main (S := [sm_207_afa9fe39]) (na := 2) (cut := []) (cs := []) (sp := []) (N := 1) (sv_cv sm_207_afa9fe39_ok sv_nv) (by decide +kernel)
-- HungerDays$State.whyNotMend(I)I (r40, [0,5])
def sm_218_afa9fe39 : sv_SM := (218, 2, 0, [.inr (some 40), .inl (2147483648, 2147483653, 0, 0, 0)], [], [], [(some (.inl (2147483648, 2147483649, 0, 0, 0)), [], [])])
set_option maxRecDepth 1000000 in
theorem sm_218_afa9fe39_ok : sv_valid sg sm_218_afa9fe39 := sv_main (S := [sm_207_afa9fe39]) (na := 2) (cut := []) (cs := []) (sp := []) (N := 1) (sv_cv sm_207_afa9fe39_ok sv_nv) (by decide +kernel)
-- HungerDays$State.heldMeetings()I (r40)
def sm_75_a0678127 : sv_SM := (75, 1, 0, [.inr (some 40)], [], [], [(some (.inl (0, 4294967295, 0, 0, 0)), [], [])])
set_option maxRecDepth 1000000 in
theorem sm_75_a0678127_ok : sv_valid sg sm_75_a0678127 := sv_main (S := []) (na := 1) (cut := [4]) (cs := [(4, 1, 1, 5, [some (.inr (some 40)), some (.inl (0, 4294967295, 0, 0, 0)), some (.inl (2147483648, 2147483654, 0, 0, 0))], [], [])]) (sp := []) (N := 2) sv_nv (by decide +kernel)
