-- by program (wip/p1/genruns.py)
set_option maxRecDepth 100000 in
theorem ia_ok0c : (match ia_get2 ia_S4 0 with
  | some c0 => Nat.beq c0.1 11
  | none => false) = true := by decide +kernel
set_option maxRecDepth 100000 in
theorem lq_feed : lx_cb 212 5 22 26 691 1456 13 105 1041 = true := by decide +kernel
set_option maxRecDepth 100000 in
theorem lk_feed : ia_all 13 105 ([[(0, 4294967295)], [(0, 4294967295)], [(0, 4294967295)], [(0, 4294967295)], [(0, 4294967295)]] : List (List (Nat × Nat))) [] = true := by decide +kernel
set_option maxRecDepth 100000 in
theorem lc_feed : ([[(0, 4294967295)], [(0, 4294967295)], [(0, 4294967295)], [(0, 4294967295)], [(0, 4294967295)]] : List (List (Nat × Nat))).all (fun qs => ia_cov qs 0) = true := by decide +kernel
set_option maxRecDepth 100000 in
theorem lq_end : lx_cb 285 1 27 31 699 1465 10 102 1016 = true := by decide +kernel
set_option maxRecDepth 100000 in
theorem lk_end : ia_all 10 102 ([[(0, 2147483647), (2147483648, 2147483648), (2147483649, 4294967295)]] : List (List (Nat × Nat))) [] = true := by decide +kernel
set_option maxRecDepth 100000 in
theorem lc_end : ([[(0, 2147483647), (2147483648, 2147483648), (2147483649, 4294967295)]] : List (List (Nat × Nat))).all (fun qs => ia_cov qs 0) = true := by decide +kernel
set_option maxRecDepth 100000 in
theorem lq_valley : lx_cb 310 0 32 36 703 1642 47 150 1003 = true := by decide +kernel
set_option maxRecDepth 100000 in
theorem lk_valley : ia_all 47 150 ([] : List (List (Nat × Nat))) [] = true := by decide +kernel
set_option maxRecDepth 100000 in
theorem lc_valley : ([] : List (List (Nat × Nat))).all (fun qs => ia_cov qs 0) = true := by decide +kernel
set_option maxRecDepth 100000 in
theorem lq_fault : lx_cb 323 0 37 40 841 1730 11 103 990 = true := by decide +kernel
set_option maxRecDepth 100000 in
theorem lk_fault : ia_all 11 103 ([] : List (List (Nat × Nat))) [] = true := by decide +kernel
set_option maxRecDepth 100000 in
theorem lc_fault : ([] : List (List (Nat × Nat))).all (fun qs => ia_cov qs 0) = true := by decide +kernel
set_option maxRecDepth 100000 in
theorem lq_food : lx_cb 404 2 50 53 845 1762 14 106 885 = true := by decide +kernel
set_option maxRecDepth 100000 in
theorem lk_food : ia_all 14 106 ([[(0, 2147483647), (2147483648, 4294967295)], [(0, 4294967295)]] : List (List (Nat × Nat))) [] = true := by decide +kernel
set_option maxRecDepth 100000 in
theorem lc_food : ([[(0, 2147483647), (2147483648, 4294967295)], [(0, 4294967295)]] : List (List (Nat × Nat))).all (fun qs => ia_cov qs 0) = true := by decide +kernel
set_option maxRecDepth 100000 in
theorem lq_meeting : lx_cb 441 2 54 57 853 1770 28 127 848 = true := by decide +kernel
set_option maxRecDepth 100000 in
theorem lk_meeting : ia_all 28 127 ([[(0, 2147483647), (2147483648, 4294967295)], [(0, 4294967295)]] : List (List (Nat × Nat))) [] = true := by decide +kernel
set_option maxRecDepth 100000 in
theorem lc_meeting : ([[(0, 2147483647), (2147483648, 4294967295)], [(0, 4294967295)]] : List (List (Nat × Nat))).all (fun qs => ia_cov qs 0) = true := by decide +kernel
set_option maxRecDepth 100000 in
theorem lq_now : lx_cb 546 1 61 65 878 1798 30 130 755 = true := by decide +kernel
set_option maxRecDepth 100000 in
theorem lk_now : ia_all 30 130 ([[(0, 2147483647), (2147483648, 2147483648), (2147483649, 2147483649), (2147483650, 2147483650), (2147483651, 2147483651), (2147483652, 2147483652), (2147483653, 2147483653), (2147483654, 2147483654), (2147483655, 2147483655), (2147483656, 4294967295)]] : List (List (Nat × Nat))) [] = true := by decide +kernel
set_option maxRecDepth 100000 in
theorem lc_now : ([[(0, 2147483647), (2147483648, 2147483648), (2147483649, 2147483649), (2147483650, 2147483650), (2147483651, 2147483651), (2147483652, 2147483652), (2147483653, 2147483653), (2147483654, 2147483654), (2147483655, 2147483655), (2147483656, 4294967295)]] : List (List (Nat × Nat))).all (fun qs => ia_cov qs 0) = true := by decide +kernel
set_option maxRecDepth 100000 in
theorem lq_eat : lx_cb 571 2 66 69 901 1814 9 101 718 = true := by decide +kernel
set_option maxRecDepth 100000 in
theorem lk_eat : ia_all 9 101 ([[(0, 2147483647), (2147483648, 4294967295)], [(0, 4294967295)]] : List (List (Nat × Nat))) [] = true := by decide +kernel
set_option maxRecDepth 100000 in
theorem lc_eat : ([[(0, 2147483647), (2147483648, 4294967295)], [(0, 4294967295)]] : List (List (Nat × Nat))).all (fun qs => ia_cov qs 0) = true := by decide +kernel
set_option maxRecDepth 100000 in
theorem lq_ail : lx_cb 608 1 70 73 934 1833 1 90 693 = true := by decide +kernel
set_option maxRecDepth 100000 in
theorem lk_ail : ia_all 1 90 ([[(0, 2147483647), (2147483648, 4294967295)]] : List (List (Nat × Nat))) [] = true := by decide +kernel
set_option maxRecDepth 100000 in
theorem lc_ail : ([[(0, 2147483647), (2147483648, 4294967295)]] : List (List (Nat × Nat))).all (fun qs => ia_cov qs 0) = true := by decide +kernel
set_option maxRecDepth 100000 in
theorem lq_mend : lx_cb 633 1 74 77 946 1837 29 128 668 = true := by decide +kernel
set_option maxRecDepth 100000 in
theorem lk_mend : ia_all 29 128 ([[(0, 2147483647), (2147483648, 4294967295)]] : List (List (Nat × Nat))) [] = true := by decide +kernel
set_option maxRecDepth 100000 in
theorem lc_mend : ([[(0, 2147483647), (2147483648, 4294967295)]] : List (List (Nat × Nat))).all (fun qs => ia_cov qs 0) = true := by decide +kernel
set_option maxRecDepth 100000 in
theorem lq_meet : lx_cb 658 1 78 81 954 1841 27 126 643 = true := by decide +kernel
set_option maxRecDepth 100000 in
theorem lk_meet : ia_all 27 126 ([[(0, 2147483647), (2147483648, 4294967295)]] : List (List (Nat × Nat))) [] = true := by decide +kernel
set_option maxRecDepth 100000 in
theorem lc_meet : ([[(0, 2147483647), (2147483648, 4294967295)]] : List (List (Nat × Nat))).all (fun qs => ia_cov qs 0) = true := by decide +kernel
set_option maxRecDepth 100000 in
theorem lq_hours : lx_cb 683 1 82 85 962 1845 15 111 618 = true := by decide +kernel
set_option maxRecDepth 100000 in
theorem lk_hours_0 : ([(0, 2147483648), (2147483649, 2147483649), (2147483650, 2147483650), (2147483651, 2147483651)] : List (Nat × Nat)).all (fun q => ia_all 15 111 [] [.inl q]) = true := by decide +kernel
set_option maxRecDepth 100000 in
theorem lk_hours_1 : ([(2147483652, 2147483652), (2147483653, 2147483653), (2147483654, 2147483654), (2147483655, 2147483655)] : List (Nat × Nat)).all (fun q => ia_all 15 111 [] [.inl q]) = true := by decide +kernel
set_option maxRecDepth 100000 in
theorem lk_hours_2 : ([(2147483656, 2147483656), (2147483657, 2147483657), (2147483658, 2147483658), (2147483659, 2147483659)] : List (Nat × Nat)).all (fun q => ia_all 15 111 [] [.inl q]) = true := by decide +kernel
set_option maxRecDepth 100000 in
theorem lk_hours_3 : ([(2147483660, 2147483660), (2147483661, 2147483661), (2147483662, 2147483662), (2147483663, 2147483663)] : List (Nat × Nat)).all (fun q => ia_all 15 111 [] [.inl q]) = true := by decide +kernel
set_option maxRecDepth 100000 in
theorem lk_hours_4 : ([(2147483664, 2147483664), (2147483665, 2147483665), (2147483666, 2147483666), (2147483667, 2147483667)] : List (Nat × Nat)).all (fun q => ia_all 15 111 [] [.inl q]) = true := by decide +kernel
set_option maxRecDepth 100000 in
theorem lk_hours_5 : ([(2147483668, 2147483668), (2147483669, 2147483669), (2147483670, 2147483670), (2147483671, 2147483671)] : List (Nat × Nat)).all (fun q => ia_all 15 111 [] [.inl q]) = true := by decide +kernel
set_option maxRecDepth 100000 in
theorem lk_hours_6 : ([(2147483672, 2147483672), (2147483673, 2147483673), (2147483674, 2147483674), (2147483675, 2147483675)] : List (Nat × Nat)).all (fun q => ia_all 15 111 [] [.inl q]) = true := by decide +kernel
set_option maxRecDepth 100000 in
theorem lk_hours_7 : ([(2147483676, 2147483676), (2147483677, 2147483677), (2147483678, 2147483678), (2147483679, 2147483679)] : List (Nat × Nat)).all (fun q => ia_all 15 111 [] [.inl q]) = true := by decide +kernel
set_option maxRecDepth 100000 in
theorem lk_hours_8 : ([(2147483680, 2147483680), (2147483681, 2147483681), (2147483682, 2147483682), (2147483683, 2147483683)] : List (Nat × Nat)).all (fun q => ia_all 15 111 [] [.inl q]) = true := by decide +kernel
set_option maxRecDepth 100000 in
theorem lk_hours_9 : ([(2147483684, 2147483684), (2147483685, 2147483685), (2147483686, 2147483686), (2147483687, 2147483687)] : List (Nat × Nat)).all (fun q => ia_all 15 111 [] [.inl q]) = true := by decide +kernel
set_option maxRecDepth 100000 in
theorem lk_hours_10 : ([(2147483688, 2147483688), (2147483689, 2147483689), (2147483690, 2147483690), (2147483691, 2147483691)] : List (Nat × Nat)).all (fun q => ia_all 15 111 [] [.inl q]) = true := by decide +kernel
set_option maxRecDepth 100000 in
theorem lk_hours_11 : ([(2147483692, 2147483692), (2147483693, 2147483693), (2147483694, 2147483694), (2147483695, 2147483695)] : List (Nat × Nat)).all (fun q => ia_all 15 111 [] [.inl q]) = true := by decide +kernel
set_option maxRecDepth 100000 in
theorem lk_hours_12 : ([(2147483696, 2147483696), (2147483697, 2147483697), (2147483698, 2147483698), (2147483699, 2147483699)] : List (Nat × Nat)).all (fun q => ia_all 15 111 [] [.inl q]) = true := by decide +kernel
set_option maxRecDepth 100000 in
theorem lk_hours_13 : ([(2147483700, 2147483700), (2147483701, 2147483701), (2147483702, 2147483702), (2147483703, 2147483703)] : List (Nat × Nat)).all (fun q => ia_all 15 111 [] [.inl q]) = true := by decide +kernel
set_option maxRecDepth 100000 in
theorem lk_hours_14 : ([(2147483704, 2147483704), (2147483705, 2147483705), (2147483706, 2147483706), (2147483707, 2147483707)] : List (Nat × Nat)).all (fun q => ia_all 15 111 [] [.inl q]) = true := by decide +kernel
set_option maxRecDepth 100000 in
theorem lk_hours_15 : ([(2147483708, 2147483708), (2147483709, 4294967295)] : List (Nat × Nat)).all (fun q => ia_all 15 111 [] [.inl q]) = true := by decide +kernel
theorem lk_hours : ia_all 15 111 [[(0, 2147483648), (2147483649, 2147483649), (2147483650, 2147483650), (2147483651, 2147483651)] ++ ([(2147483652, 2147483652), (2147483653, 2147483653), (2147483654, 2147483654), (2147483655, 2147483655)] ++ ([(2147483656, 2147483656), (2147483657, 2147483657), (2147483658, 2147483658), (2147483659, 2147483659)] ++ ([(2147483660, 2147483660), (2147483661, 2147483661), (2147483662, 2147483662), (2147483663, 2147483663)] ++ ([(2147483664, 2147483664), (2147483665, 2147483665), (2147483666, 2147483666), (2147483667, 2147483667)] ++ ([(2147483668, 2147483668), (2147483669, 2147483669), (2147483670, 2147483670), (2147483671, 2147483671)] ++ ([(2147483672, 2147483672), (2147483673, 2147483673), (2147483674, 2147483674), (2147483675, 2147483675)] ++ ([(2147483676, 2147483676), (2147483677, 2147483677), (2147483678, 2147483678), (2147483679, 2147483679)] ++ ([(2147483680, 2147483680), (2147483681, 2147483681), (2147483682, 2147483682), (2147483683, 2147483683)] ++ ([(2147483684, 2147483684), (2147483685, 2147483685), (2147483686, 2147483686), (2147483687, 2147483687)] ++ ([(2147483688, 2147483688), (2147483689, 2147483689), (2147483690, 2147483690), (2147483691, 2147483691)] ++ ([(2147483692, 2147483692), (2147483693, 2147483693), (2147483694, 2147483694), (2147483695, 2147483695)] ++ ([(2147483696, 2147483696), (2147483697, 2147483697), (2147483698, 2147483698), (2147483699, 2147483699)] ++ ([(2147483700, 2147483700), (2147483701, 2147483701), (2147483702, 2147483702), (2147483703, 2147483703)] ++ ([(2147483704, 2147483704), (2147483705, 2147483705), (2147483706, 2147483706), (2147483707, 2147483707)] ++ ([(2147483708, 2147483708), (2147483709, 4294967295)])))))))))))))))] [] = true := by
  show ([(0, 2147483648), (2147483649, 2147483649), (2147483650, 2147483650), (2147483651, 2147483651)] ++ ([(2147483652, 2147483652), (2147483653, 2147483653), (2147483654, 2147483654), (2147483655, 2147483655)] ++ ([(2147483656, 2147483656), (2147483657, 2147483657), (2147483658, 2147483658), (2147483659, 2147483659)] ++ ([(2147483660, 2147483660), (2147483661, 2147483661), (2147483662, 2147483662), (2147483663, 2147483663)] ++ ([(2147483664, 2147483664), (2147483665, 2147483665), (2147483666, 2147483666), (2147483667, 2147483667)] ++ ([(2147483668, 2147483668), (2147483669, 2147483669), (2147483670, 2147483670), (2147483671, 2147483671)] ++ ([(2147483672, 2147483672), (2147483673, 2147483673), (2147483674, 2147483674), (2147483675, 2147483675)] ++ ([(2147483676, 2147483676), (2147483677, 2147483677), (2147483678, 2147483678), (2147483679, 2147483679)] ++ ([(2147483680, 2147483680), (2147483681, 2147483681), (2147483682, 2147483682), (2147483683, 2147483683)] ++ ([(2147483684, 2147483684), (2147483685, 2147483685), (2147483686, 2147483686), (2147483687, 2147483687)] ++ ([(2147483688, 2147483688), (2147483689, 2147483689), (2147483690, 2147483690), (2147483691, 2147483691)] ++ ([(2147483692, 2147483692), (2147483693, 2147483693), (2147483694, 2147483694), (2147483695, 2147483695)] ++ ([(2147483696, 2147483696), (2147483697, 2147483697), (2147483698, 2147483698), (2147483699, 2147483699)] ++ ([(2147483700, 2147483700), (2147483701, 2147483701), (2147483702, 2147483702), (2147483703, 2147483703)] ++ ([(2147483704, 2147483704), (2147483705, 2147483705), (2147483706, 2147483706), (2147483707, 2147483707)] ++ ([(2147483708, 2147483708), (2147483709, 4294967295)]))))))))))))))) : List (Nat × Nat)).all (fun q => ia_all 15 111 [] [.inl q]) = true
  simp only [List.all_append, Bool.and_eq_true]
  exact ⟨lk_hours_0, ⟨lk_hours_1, ⟨lk_hours_2, ⟨lk_hours_3, ⟨lk_hours_4, ⟨lk_hours_5, ⟨lk_hours_6, ⟨lk_hours_7, ⟨lk_hours_8, ⟨lk_hours_9, ⟨lk_hours_10, ⟨lk_hours_11, ⟨lk_hours_12, ⟨lk_hours_13, ⟨lk_hours_14, lk_hours_15⟩⟩⟩⟩⟩⟩⟩⟩⟩⟩⟩⟩⟩⟩⟩
set_option maxRecDepth 100000 in
theorem lc_hours : ([[(0, 2147483648), (2147483649, 2147483649), (2147483650, 2147483650), (2147483651, 2147483651)] ++ ([(2147483652, 2147483652), (2147483653, 2147483653), (2147483654, 2147483654), (2147483655, 2147483655)] ++ ([(2147483656, 2147483656), (2147483657, 2147483657), (2147483658, 2147483658), (2147483659, 2147483659)] ++ ([(2147483660, 2147483660), (2147483661, 2147483661), (2147483662, 2147483662), (2147483663, 2147483663)] ++ ([(2147483664, 2147483664), (2147483665, 2147483665), (2147483666, 2147483666), (2147483667, 2147483667)] ++ ([(2147483668, 2147483668), (2147483669, 2147483669), (2147483670, 2147483670), (2147483671, 2147483671)] ++ ([(2147483672, 2147483672), (2147483673, 2147483673), (2147483674, 2147483674), (2147483675, 2147483675)] ++ ([(2147483676, 2147483676), (2147483677, 2147483677), (2147483678, 2147483678), (2147483679, 2147483679)] ++ ([(2147483680, 2147483680), (2147483681, 2147483681), (2147483682, 2147483682), (2147483683, 2147483683)] ++ ([(2147483684, 2147483684), (2147483685, 2147483685), (2147483686, 2147483686), (2147483687, 2147483687)] ++ ([(2147483688, 2147483688), (2147483689, 2147483689), (2147483690, 2147483690), (2147483691, 2147483691)] ++ ([(2147483692, 2147483692), (2147483693, 2147483693), (2147483694, 2147483694), (2147483695, 2147483695)] ++ ([(2147483696, 2147483696), (2147483697, 2147483697), (2147483698, 2147483698), (2147483699, 2147483699)] ++ ([(2147483700, 2147483700), (2147483701, 2147483701), (2147483702, 2147483702), (2147483703, 2147483703)] ++ ([(2147483704, 2147483704), (2147483705, 2147483705), (2147483706, 2147483706), (2147483707, 2147483707)] ++ ([(2147483708, 2147483708), (2147483709, 4294967295)])))))))))))))))] : List (List (Nat × Nat))).all (fun qs => ia_cov qs 0) = true := by decide +kernel
set_option maxRecDepth 100000 in
theorem lq_undo : lx_cb 708 0 86 89 989 1860 46 149 605 = true := by decide +kernel
set_option maxRecDepth 100000 in
theorem lk_undo : ia_all 46 149 ([] : List (List (Nat × Nat))) [] = true := by decide +kernel
set_option maxRecDepth 100000 in
theorem lc_undo : ([] : List (List (Nat × Nat))).all (fun qs => ia_cov qs 0) = true := by decide +kernel
set_option maxRecDepth 100000 in
theorem lq_on : lx_cb 721 1 90 93 997 1864 32 132 580 = true := by decide +kernel
set_option maxRecDepth 100000 in
theorem lk_on : ia_all 32 132 ([[(0, 2147483647), (2147483648, 2147483847), (2147483848, 4294967295)]] : List (List (Nat × Nat))) [] = true := by decide +kernel
set_option maxRecDepth 100000 in
theorem lc_on : ([[(0, 2147483647), (2147483648, 2147483847), (2147483848, 4294967295)]] : List (List (Nat × Nat))).all (fun qs => ia_cov qs 0) = true := by decide +kernel
set_option maxRecDepth 100000 in
theorem lq_common : lx_cb 746 0 94 97 1008 1872 6 98 567 = true := by decide +kernel
set_option maxRecDepth 100000 in
theorem lk_common : ia_all 6 98 ([] : List (List (Nat × Nat))) [] = true := by decide +kernel
set_option maxRecDepth 100000 in
theorem lc_common : ([] : List (List (Nat × Nat))).all (fun qs => ia_cov qs 0) = true := by decide +kernel
set_option maxRecDepth 100000 in
theorem lq_table : lx_cb 759 1 98 101 1019 1879 43 144 542 = true := by decide +kernel
set_option maxRecDepth 100000 in
theorem lk_table : ia_all 43 144 ([[(0, 2147483647), (2147483648, 2147483648), (2147483649, 4294967295)]] : List (List (Nat × Nat))) [] = true := by decide +kernel
set_option maxRecDepth 100000 in
theorem lc_table : ([[(0, 2147483647), (2147483648, 2147483648), (2147483649, 4294967295)]] : List (List (Nat × Nat))).all (fun qs => ia_cov qs 0) = true := by decide +kernel
set_option maxRecDepth 100000 in
theorem lq_plate : lx_cb 784 1 102 105 1085 1915 35 137 517 = true := by decide +kernel
set_option maxRecDepth 100000 in
theorem lk_plate : ia_all 35 137 ([[(0, 2147483647), (2147483648, 4294967295)]] : List (List (Nat × Nat))) [] = true := by decide +kernel
set_option maxRecDepth 100000 in
theorem lc_plate : ([[(0, 2147483647), (2147483648, 4294967295)]] : List (List (Nat × Nat))).all (fun qs => ia_cov qs 0) = true := by decide +kernel
set_option maxRecDepth 100000 in
theorem lq_feast : lx_cb 809 0 106 109 1093 1919 12 104 504 = true := by decide +kernel
set_option maxRecDepth 100000 in
theorem lk_feast : ia_all 12 104 ([] : List (List (Nat × Nat))) [] = true := by decide +kernel
set_option maxRecDepth 100000 in
theorem lc_feast : ([] : List (List (Nat × Nat))).all (fun qs => ia_cov qs 0) = true := by decide +kernel
set_option maxRecDepth 100000 in
theorem lq_ate : lx_cb 822 0 110 113 1097 1923 3 92 491 = true := by decide +kernel
set_option maxRecDepth 100000 in
theorem lk_ate : ia_all 3 92 ([] : List (List (Nat × Nat))) [] = true := by decide +kernel
set_option maxRecDepth 100000 in
theorem lc_ate : ([] : List (List (Nat × Nat))).all (fun qs => ia_cov qs 0) = true := by decide +kernel
set_option maxRecDepth 100000 in
theorem lq_surely : lx_cb 835 0 114 117 1117 1935 42 143 478 = true := by decide +kernel
set_option maxRecDepth 100000 in
theorem lk_surely : ia_all 42 143 ([] : List (List (Nat × Nat))) [] = true := by decide +kernel
set_option maxRecDepth 100000 in
theorem lc_surely : ([] : List (List (Nat × Nat))).all (fun qs => ia_cov qs 0) = true := by decide +kernel
set_option maxRecDepth 100000 in
theorem lq_ask : lx_cb 848 0 118 121 1121 1939 2 91 465 = true := by decide +kernel
set_option maxRecDepth 100000 in
theorem lk_ask : ia_all 2 91 ([] : List (List (Nat × Nat))) [] = true := by decide +kernel
set_option maxRecDepth 100000 in
theorem lc_ask : ([] : List (List (Nat × Nat))).all (fun qs => ia_cov qs 0) = true := by decide +kernel
set_option maxRecDepth 100000 in
theorem lq_twins : lx_cb 861 2 122 125 1125 1943 45 148 428 = true := by decide +kernel
set_option maxRecDepth 100000 in
theorem lk_twins : ia_all 45 148 ([[(0, 2147483647), (2147483648, 4294967295)], [(0, 4294967295)]] : List (List (Nat × Nat))) [] = true := by decide +kernel
set_option maxRecDepth 100000 in
theorem lc_twins : ([[(0, 2147483647), (2147483648, 4294967295)], [(0, 4294967295)]] : List (List (Nat × Nat))).all (fun qs => ia_cov qs 0) = true := by decide +kernel
set_option maxRecDepth 100000 in
theorem lq_late : lx_cb 898 1 126 129 1131 1955 25 123 403 = true := by decide +kernel
set_option maxRecDepth 100000 in
theorem lk_late : ia_all 25 123 ([[(0, 2147483647), (2147483648, 2147483847), (2147483848, 4294967295)]] : List (List (Nat × Nat))) [] = true := by decide +kernel
set_option maxRecDepth 100000 in
theorem lc_late : ([[(0, 2147483647), (2147483648, 2147483847), (2147483848, 4294967295)]] : List (List (Nat × Nat))).all (fun qs => ia_cov qs 0) = true := by decide +kernel
set_option maxRecDepth 100000 in
theorem lq_share : lx_cb 923 2 130 133 1139 1963 40 141 366 = true := by decide +kernel
set_option maxRecDepth 100000 in
theorem lk_share : ia_all 40 141 ([[(0, 2147483647), (2147483648, 2147484647), (2147484648, 4294967295)], [(0, 2147483647), (2147483648, 4294967295)]] : List (List (Nat × Nat))) [] = true := by decide +kernel
set_option maxRecDepth 100000 in
theorem lc_share : ([[(0, 2147483647), (2147483648, 2147484647), (2147484648, 4294967295)], [(0, 2147483647), (2147483648, 4294967295)]] : List (List (Nat × Nat))).all (fun qs => ia_cov qs 0) = true := by decide +kernel
set_option maxRecDepth 100000 in
theorem lq_clash : lx_cb 960 1 134 137 1151 1971 5 97 341 = true := by decide +kernel
set_option maxRecDepth 100000 in
theorem lk_clash : ia_all 5 97 ([[(0, 2147483646), (2147483647, 2147483647), (2147483648, 4294967295)]] : List (List (Nat × Nat))) [] = true := by decide +kernel
set_option maxRecDepth 100000 in
theorem lc_clash : ([[(0, 2147483646), (2147483647, 2147483647), (2147483648, 4294967295)]] : List (List (Nat × Nat))).all (fun qs => ia_cov qs 0) = true := by decide +kernel
set_option maxRecDepth 100000 in
theorem lq_keeps : lx_cb 985 1 138 141 1162 1975 24 122 316 = true := by decide +kernel
set_option maxRecDepth 100000 in
theorem lk_keeps : ia_all 24 122 ([[(0, 2147483648), (2147483649, 2147483847), (2147483848, 4294967295)]] : List (List (Nat × Nat))) [] = true := by decide +kernel
set_option maxRecDepth 100000 in
theorem lc_keeps : ([[(0, 2147483648), (2147483649, 2147483847), (2147483848, 4294967295)]] : List (List (Nat × Nat))).all (fun qs => ia_cov qs 0) = true := by decide +kernel
set_option maxRecDepth 100000 in
theorem lq_later : lx_cb 1010 2 142 145 1179 1987 26 124 279 = true := by decide +kernel
set_option maxRecDepth 100000 in
theorem lk_later : ia_all 26 124 ([[(0, 2147483647), (2147483648, 4294967295)], [(0, 4294967295)]] : List (List (Nat × Nat))) [] = true := by decide +kernel
set_option maxRecDepth 100000 in
theorem lc_later : ([[(0, 2147483647), (2147483648, 4294967295)], [(0, 4294967295)]] : List (List (Nat × Nat))).all (fun qs => ia_cov qs 0) = true := by decide +kernel
set_option maxRecDepth 100000 in
theorem lq_paid : lx_cb 1047 1 146 149 1183 1991 34 135 254 = true := by decide +kernel
set_option maxRecDepth 100000 in
theorem lk_paid : ia_all 34 135 ([[(0, 2147483647), (2147483648, 4294967295)]] : List (List (Nat × Nat))) [] = true := by decide +kernel
set_option maxRecDepth 100000 in
theorem lc_paid : ([[(0, 2147483647), (2147483648, 4294967295)]] : List (List (Nat × Nat))).all (fun qs => ia_cov qs 0) = true := by decide +kernel
set_option maxRecDepth 100000 in
theorem lq_drawn : lx_cb 1072 2 150 153 1191 1995 8 100 217 = true := by decide +kernel
set_option maxRecDepth 100000 in
theorem lk_drawn : ia_all 8 100 ([[(0, 2147483648), (2147483649, 2147483708), (2147483709, 4294967295)], [(0, 4294967295)]] : List (List (Nat × Nat))) [] = true := by decide +kernel
set_option maxRecDepth 100000 in
theorem lc_drawn : ([[(0, 2147483648), (2147483649, 2147483708), (2147483709, 4294967295)], [(0, 4294967295)]] : List (List (Nat × Nat))).all (fun qs => ia_cov qs 0) = true := by decide +kernel
set_option maxRecDepth 100000 in
theorem lq_odds : lx_cb 1109 3 154 158 1218 2012 31 131 168 = true := by decide +kernel
set_option maxRecDepth 100000 in
theorem lk_odds : ia_all 31 131 ([[(0, 2147483647), (2147483648, 4294967295)], [(0, 4294967295)], [(0, 4294967295)]] : List (List (Nat × Nat))) [] = true := by decide +kernel
set_option maxRecDepth 100000 in
theorem lc_odds : ([[(0, 2147483647), (2147483648, 4294967295)], [(0, 4294967295)], [(0, 4294967295)]] : List (List (Nat × Nat))).all (fun qs => ia_cov qs 0) = true := by decide +kernel
set_option maxRecDepth 100000 in
theorem lq_book : lx_cb 1158 1 159 162 1222 2016 4 96 143 = true := by decide +kernel
set_option maxRecDepth 100000 in
theorem lk_book : ia_all 4 96 ([[(0, 2147483647), (2147483648, 2147483648), (2147483649, 2147483649), (2147483650, 4294967295)]] : List (List (Nat × Nat))) [] = true := by decide +kernel
set_option maxRecDepth 100000 in
theorem lc_book : ([[(0, 2147483647), (2147483648, 2147483648), (2147483649, 2147483649), (2147483650, 4294967295)]] : List (List (Nat × Nat))).all (fun qs => ia_cov qs 0) = true := by decide +kernel
set_option maxRecDepth 100000 in
theorem lq_told : lx_cb 1183 1 163 166 1274 2028 44 146 118 = true := by decide +kernel
set_option maxRecDepth 100000 in
theorem lk_told : ia_all 44 146 ([[(0, 2147483647), (2147483648, 2147483648), (2147483649, 2147483649), (2147483650, 2147483650), (2147483651, 2147483651), (2147483652, 4294967295)]] : List (List (Nat × Nat))) [] = true := by decide +kernel
set_option maxRecDepth 100000 in
theorem lc_told : ([[(0, 2147483647), (2147483648, 2147483648), (2147483649, 2147483649), (2147483650, 2147483650), (2147483651, 2147483651), (2147483652, 4294967295)]] : List (List (Nat × Nat))).all (fun qs => ia_cov qs 0) = true := by decide +kernel
set_option maxRecDepth 100000 in
theorem lq_sentence : lx_cb 1208 0 167 170 1278 2032 39 140 105 = true := by decide +kernel
set_option maxRecDepth 100000 in
theorem lk_sentence : ia_all 39 140 ([] : List (List (Nat × Nat))) [] = true := by decide +kernel
set_option maxRecDepth 100000 in
theorem lc_sentence : ([] : List (List (Nat × Nat))).all (fun qs => ia_cov qs 0) = true := by decide +kernel
set_option maxRecDepth 100000 in
theorem lq_said : lx_cb 1221 1 171 174 1319 2060 38 139 80 = true := by decide +kernel
set_option maxRecDepth 100000 in
theorem lk_said : ia_all 38 139 ([[(0, 4294967295)]] : List (List (Nat × Nat))) [] = true := by decide +kernel
set_option maxRecDepth 100000 in
theorem lc_said : ([[(0, 4294967295)]] : List (List (Nat × Nat))).all (fun qs => ia_cov qs 0) = true := by decide +kernel
set_option maxRecDepth 100000 in
theorem lq_image : lx_cb 1246 1 175 178 1352 2072 17 112 55 = true := by decide +kernel
set_option maxRecDepth 100000 in
theorem lk_image : ia_all 17 112 ([[(0, 2147483647), (2147483648, 2147483648), (2147483649, 2147483649), (2147483650, 4294967295)]] : List (List (Nat × Nat))) [] = true := by decide +kernel
set_option maxRecDepth 100000 in
theorem lc_image : ([[(0, 2147483647), (2147483648, 2147483648), (2147483649, 2147483649), (2147483650, 4294967295)]] : List (List (Nat × Nat))).all (fun qs => ia_cov qs 0) = true := by decide +kernel
set_option maxRecDepth 100000 in
theorem lq_restore : lx_cb 1271 1 179 182 1359 2076 37 138 30 = true := by decide +kernel
set_option maxRecDepth 100000 in
theorem lk_restore : ia_all 37 138 ([[(0, 2147483647), (2147483648, 2147483648), (2147483649, 2147483649), (2147483650, 4294967295)]] : List (List (Nat × Nat))) [] = true := by decide +kernel
set_option maxRecDepth 100000 in
theorem lc_restore : ([[(0, 2147483647), (2147483648, 2147483648), (2147483649, 2147483649), (2147483650, 4294967295)]] : List (List (Nat × Nat))).all (fun qs => ia_cov qs 0) = true := by decide +kernel
set_option maxRecDepth 100000 in
theorem lq_count : lx_cb 1296 1 183 186 897 2080 7 99 5 = true := by decide +kernel
set_option maxRecDepth 100000 in
theorem lk_count : ia_all 7 99 ([[(0, 2147483647), (2147483648, 2147483648), (2147483649, 2147483649), (2147483650, 2147483650), (2147483651, 2147483651), (2147483652, 2147483652), (2147483653, 2147483653), (2147483654, 4294967295)]] : List (List (Nat × Nat))) [] = true := by decide +kernel
set_option maxRecDepth 100000 in
theorem lc_count : ([[(0, 2147483647), (2147483648, 2147483648), (2147483649, 2147483649), (2147483650, 2147483650), (2147483651, 2147483651), (2147483652, 2147483652), (2147483653, 2147483653), (2147483654, 4294967295)]] : List (List (Nat × Nat))).all (fun qs => ia_cov qs 0) = true := by decide +kernel
