-- HungerDaysModel.bits(I)I, by hand
def hs_bits : sv_SM := (95, 1, 0, [.inl (0, 4294967295, 0, 0, 0)], [], [], [(some (.inl (0, 4294967295, 0, 0, 0)), [], [])])
