-- by program (wip/p2/svemit.py): summaries that are proved by hand
-- HungerDaysModel.bits(I)I
def hs_bits : sv_SM := (95, 1, 0, [.inl (0, 4294967295, 0, 0, 0)], [], [], [(some (.inl (0, 4294967295, 0, 0, 0)), [], [])])
-- HungerDays$Plates.at(I)I
def hs_at : sv_SM := (176, 1, 0, [.inl (0, 4294967295, 0, 0, 0)], [], [], [(some (.inl (2147483648, 2147483840, 0, 0, 0)), [], [])])
-- HungerDays$Plates.howMany(I)I
def hs_many : sv_SM := (179, 1, 0, [.inl (0, 4294967295, 0, 0, 0)], [], [], [(some (.inl (2147483648, 2147483683, 0, 0, 0)), [], [])])
