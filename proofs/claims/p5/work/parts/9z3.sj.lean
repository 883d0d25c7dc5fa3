-- by program (wip/p2/genmore4.py): summaries, checked
-- HungerDays$Valley.meetingsOf(I)I (r4, [0,5])
def sm_231_edd710a3 : sv_SM := (231, 1, 0, [.inr (some 4), .inl (2147483648, 2147483653, 0, 0, 0)], [], [], [(some (.inl (0, 4294967295, 0, 0, 0)), [], [])])
set_option maxRecDepth 1000000 in
theorem sm_231_edd710a3_ok : sv_valid sg sm_231_edd710a3 := sv_main (S := []) (na := 2) (cut := [4]) (cs := [(4, 1, 1, 7, [some (.inr (some 4)), some (.inl (2147483648, 2147483653, 0, 0, 0)), some (.inl (0, 4294967295, 0, 0, 0)), some (.inl (2147483648, 2147483654, 0, 0, 0))], [], [])]) (sp := []) (N := 2) sv_nv (by decide +kernel)
