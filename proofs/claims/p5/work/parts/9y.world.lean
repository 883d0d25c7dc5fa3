/-! ## the world behind the constructors (wip/p2/gen9y.py) -/
noncomputable def ia_i0 : ia_H := ia_set2 ia_w0 0 (11, (ia_Fs.getD 11 (0, [])))
noncomputable def ia_r1 : ia_O := (ia_call 7 0 [.inr (.inr (.inl (some 0)))] ia_i0 1).getD (none, [], 0)
noncomputable def ia_i2 : ia_H := ia_set2 ia_r1.2.1 184 (12, (ia_Fs.getD 12 (0, [])))
noncomputable def ia_r3 : ia_O := (ia_call 7 89 [.inr (.inr (.inl (some 184)))] ia_i2 185).getD (none, [], 0)
/-- the world as the law's loop finds it: 0 the class's object, 184 the reference's, 204 the row of one long -/
noncomputable def ia_s4 : ia_H := ia_set2 ia_r3.2.1 204 (51, 1, ia_rows 1 (.inr (.inl 0)))
noncomputable def ia_S4_0 : List ia_C := [(11, 17, [[.inr (.inr (.inl (some 1))), ia_z, .inr (.inr (.inl (some 2))), ia_z, .inr (.inr (.inl (some 4))), .inr (.inr (.inl (some 18))), .inr (.inr (.inl (some 32))), .inr (.inr (.inl (some 33))), .inr (.inr (.inl (some 40))), .inr (.inr (.inl (some 47))), .inr (.inr (.inl (some 105))), .inr (.inr (.inl (some 106))), .inr (.inr (.inl (some 111))), .inr (.inr (.inl (some 116))), .inr (.inr (.inl (some 120))), .inr (.inr (.inl (some 121)))], [.inr (.inr (.inl (some 128)))]]), (50, 940, ia_rows 940 ia_z), (5, 13, [[.inr (.inr (.inl (some 1))), .inr (.inr (.inl (some 3))), ia_z, ia_z, ia_z, ia_z, ia_z, .inr (.inl 0), ia_z, ia_z, ia_z, ia_z, ia_z]]), (51, 22, [[.inr (.inl 639022), .inr (.inl 781668530), .inr (.inl 542723566), .inr (.inl 212452), .inr (.inl 14132323783), .inr (.inl 136276), .inr (.inl 165523), .inr (.inl 42387), .inr (.inl 13809811), .inr (.inl 431284), .inr (.inl 278194), .inr (.inl 498), .inr (.inl 1476), .inr (.inl 14836), .inr (.inl 9612), .inr (.inl 515251)], [.inr (.inl 402789), .inr (.inl 302), .inr (.inl 132741), .inr (.inl 290921650), .inr (.inl 113966), .inr (.inl 492210354), .inr (.inl 0), .inr (.inl 0), .inr (.inl 0), .inr (.inl 0), .inr (.inl 0), .inr (.inl 0), .inr (.inl 0), .inr (.inl 0), .inr (.inl 0), .inr (.inl 0)]]), (9, 20, [[.inl (2147483658, 2147483658), ia_z, ia_z, ia_z, ia_z, ia_z, ia_z, .inr (.inr (.inl (some 5))), .inr (.inr (.inl (some 6))), .inr (.inr (.inl (some 7))), .inr (.inr (.inl (some 8))), .inr (.inr (.inl (some 9))), .inr (.inr (.inl (some 10))), .inr (.inr (.inl (some 11))), .inr (.inr (.inl (some 12))), .inr (.inr (.inl (some 13)))], [.inr (.inr (.inl (some 14))), .inr (.inr (.inl (some 15))), .inr (.inr (.inl (some 16))), .inr (.inr (.inl (some 17)))]]), (51, 6, ia_rows 6 (.inr (.inl 0))), (51, 4, ia_rows 4 (.inr (.inl 0))), (51, 6, ia_rows 6 (.inr (.inl 0))), (50, 6, ia_rows 6 ia_z), (50, 6, ia_rows 6 ia_z), (50, 6, ia_rows 6 ia_z), (50, 4, ia_rows 4 ia_z), (50, 4, ia_rows 4 ia_z), (50, 6, ia_rows 6 ia_z), (50, 10, ia_rows 10 ia_z), (50, 10, ia_rows 10 ia_z)]
noncomputable def ia_S4_1 : List ia_C := [(50, 10, ia_rows 10 ia_z), (50, 10, ia_rows 10 ia_z), (9, 20, [[.inl (2147483658, 2147483658), ia_z, ia_z, ia_z, ia_z, ia_z, ia_z, .inr (.inr (.inl (some 19))), .inr (.inr (.inl (some 20))), .inr (.inr (.inl (some 21))), .inr (.inr (.inl (some 22))), .inr (.inr (.inl (some 23))), .inr (.inr (.inl (some 24))), .inr (.inr (.inl (some 25))), .inr (.inr (.inl (some 26))), .inr (.inr (.inl (some 27)))], [.inr (.inr (.inl (some 28))), .inr (.inr (.inl (some 29))), .inr (.inr (.inl (some 30))), .inr (.inr (.inl (some 31)))]]), (51, 6, ia_rows 6 (.inr (.inl 0))), (51, 4, ia_rows 4 (.inr (.inl 0))), (51, 6, ia_rows 6 (.inr (.inl 0))), (50, 6, ia_rows 6 ia_z), (50, 6, ia_rows 6 ia_z), (50, 6, ia_rows 6 ia_z), (50, 4, ia_rows 4 ia_z), (50, 4, ia_rows 4 ia_z), (50, 6, ia_rows 6 ia_z), (50, 10, ia_rows 10 ia_z), (50, 10, ia_rows 10 ia_z), (50, 10, ia_rows 10 ia_z), (50, 10, ia_rows 10 ia_z)]
noncomputable def ia_S4_2 : List ia_C := [(10, 4, [[.inr (.inr (.inl (some 2))), .inr (.inr (.inl (some 18))), ia_z, ia_z]]), (7, 10, [[.inr (.inr (.inl (some 4))), ia_z, ia_z, ia_z, .inr (.inr (.inl (some 34))), .inr (.inr (.inl (some 35))), .inr (.inr (.inl (some 36))), .inr (.inr (.inl (some 37))), .inr (.inr (.inl (some 38))), .inr (.inr (.inl (some 39)))]]), (50, 6, ia_rows 6 ia_z), (50, 6, ia_rows 6 ia_z), (50, 6, ia_rows 6 ia_z), (50, 4, ia_rows 4 ia_z), (50, 6, ia_rows 6 ia_z), (50, 10, ia_rows 10 ia_z), (7, 10, [[.inr (.inr (.inl (some 4))), ia_z, ia_z, ia_z, .inr (.inr (.inl (some 41))), .inr (.inr (.inl (some 42))), .inr (.inr (.inl (some 43))), .inr (.inr (.inl (some 44))), .inr (.inr (.inl (some 45))), .inr (.inr (.inl (some 46)))]]), (50, 6, ia_rows 6 ia_z), (50, 6, ia_rows 6 ia_z), (50, 6, ia_rows 6 ia_z), (50, 4, ia_rows 4 ia_z), (50, 6, ia_rows 6 ia_z), (50, 10, ia_rows 10 ia_z), (2, 3, [[.inr (.inr (.inl (some 48))), ia_z, ia_z]])]
noncomputable def ia_S4_3 : List ia_C := [(55, 8, [[.inr (.inr (.inl (some 49))), .inr (.inr (.inl (some 56))), .inr (.inr (.inl (some 63))), .inr (.inr (.inl (some 70))), .inr (.inr (.inl (some 77))), .inr (.inr (.inl (some 84))), .inr (.inr (.inl (some 91))), .inr (.inr (.inl (some 98))), ia_nu, ia_nu, ia_nu, ia_nu, ia_nu, ia_nu, ia_nu, ia_nu]]), (7, 10, [[.inr (.inr (.inl (some 4))), ia_z, ia_z, ia_z, .inr (.inr (.inl (some 50))), .inr (.inr (.inl (some 51))), .inr (.inr (.inl (some 52))), .inr (.inr (.inl (some 53))), .inr (.inr (.inl (some 54))), .inr (.inr (.inl (some 55)))]]), (50, 6, ia_rows 6 ia_z), (50, 6, ia_rows 6 ia_z), (50, 6, ia_rows 6 ia_z), (50, 4, ia_rows 4 ia_z), (50, 6, ia_rows 6 ia_z), (50, 10, ia_rows 10 ia_z), (7, 10, [[.inr (.inr (.inl (some 4))), ia_z, ia_z, ia_z, .inr (.inr (.inl (some 57))), .inr (.inr (.inl (some 58))), .inr (.inr (.inl (some 59))), .inr (.inr (.inl (some 60))), .inr (.inr (.inl (some 61))), .inr (.inr (.inl (some 62)))]]), (50, 6, ia_rows 6 ia_z), (50, 6, ia_rows 6 ia_z), (50, 6, ia_rows 6 ia_z), (50, 4, ia_rows 4 ia_z), (50, 6, ia_rows 6 ia_z), (50, 10, ia_rows 10 ia_z), (7, 10, [[.inr (.inr (.inl (some 4))), ia_z, ia_z, ia_z, .inr (.inr (.inl (some 64))), .inr (.inr (.inl (some 65))), .inr (.inr (.inl (some 66))), .inr (.inr (.inl (some 67))), .inr (.inr (.inl (some 68))), .inr (.inr (.inl (some 69)))]])]
noncomputable def ia_S4_4 : List ia_C := [(50, 6, ia_rows 6 ia_z), (50, 6, ia_rows 6 ia_z), (50, 6, ia_rows 6 ia_z), (50, 4, ia_rows 4 ia_z), (50, 6, ia_rows 6 ia_z), (50, 10, ia_rows 10 ia_z), (7, 10, [[.inr (.inr (.inl (some 4))), ia_z, ia_z, ia_z, .inr (.inr (.inl (some 71))), .inr (.inr (.inl (some 72))), .inr (.inr (.inl (some 73))), .inr (.inr (.inl (some 74))), .inr (.inr (.inl (some 75))), .inr (.inr (.inl (some 76)))]]), (50, 6, ia_rows 6 ia_z), (50, 6, ia_rows 6 ia_z), (50, 6, ia_rows 6 ia_z), (50, 4, ia_rows 4 ia_z), (50, 6, ia_rows 6 ia_z), (50, 10, ia_rows 10 ia_z), (7, 10, [[.inr (.inr (.inl (some 4))), ia_z, ia_z, ia_z, .inr (.inr (.inl (some 78))), .inr (.inr (.inl (some 79))), .inr (.inr (.inl (some 80))), .inr (.inr (.inl (some 81))), .inr (.inr (.inl (some 82))), .inr (.inr (.inl (some 83)))]]), (50, 6, ia_rows 6 ia_z), (50, 6, ia_rows 6 ia_z)]
noncomputable def ia_S4_5 : List ia_C := [(50, 6, ia_rows 6 ia_z), (50, 4, ia_rows 4 ia_z), (50, 6, ia_rows 6 ia_z), (50, 10, ia_rows 10 ia_z), (7, 10, [[.inr (.inr (.inl (some 4))), ia_z, ia_z, ia_z, .inr (.inr (.inl (some 85))), .inr (.inr (.inl (some 86))), .inr (.inr (.inl (some 87))), .inr (.inr (.inl (some 88))), .inr (.inr (.inl (some 89))), .inr (.inr (.inl (some 90)))]]), (50, 6, ia_rows 6 ia_z), (50, 6, ia_rows 6 ia_z), (50, 6, ia_rows 6 ia_z), (50, 4, ia_rows 4 ia_z), (50, 6, ia_rows 6 ia_z), (50, 10, ia_rows 10 ia_z), (7, 10, [[.inr (.inr (.inl (some 4))), ia_z, ia_z, ia_z, .inr (.inr (.inl (some 92))), .inr (.inr (.inl (some 93))), .inr (.inr (.inl (some 94))), .inr (.inr (.inl (some 95))), .inr (.inr (.inl (some 96))), .inr (.inr (.inl (some 97)))]]), (50, 6, ia_rows 6 ia_z), (50, 6, ia_rows 6 ia_z), (50, 6, ia_rows 6 ia_z), (50, 4, ia_rows 4 ia_z)]
noncomputable def ia_S4_6 : List ia_C := [(50, 6, ia_rows 6 ia_z), (50, 10, ia_rows 10 ia_z), (7, 10, [[.inr (.inr (.inl (some 4))), ia_z, ia_z, ia_z, .inr (.inr (.inl (some 99))), .inr (.inr (.inl (some 100))), .inr (.inr (.inl (some 101))), .inr (.inr (.inl (some 102))), .inr (.inr (.inl (some 103))), .inr (.inr (.inl (some 104)))]]), (50, 6, ia_rows 6 ia_z), (50, 6, ia_rows 6 ia_z), (50, 6, ia_rows 6 ia_z), (50, 4, ia_rows 4 ia_z), (50, 6, ia_rows 6 ia_z), (50, 10, ia_rows 10 ia_z), (54, 2, [[.inr (.inr (.inl (some 130))), .inr (.inr (.inl (some 157))), ia_nu, ia_nu, ia_nu, ia_nu, ia_nu, ia_nu, ia_nu, ia_nu, ia_nu, ia_nu, ia_nu, ia_nu, ia_nu, ia_nu]]), (6, 7, [[ia_z, ia_z, .inr (.inr (.inl (some 107))), .inr (.inr (.inl (some 108))), .inr (.inr (.inl (some 109))), .inr (.inr (.inl (some 110))), ia_z]]), (50, 40, ia_rows 40 ia_z), (50, 40, ia_rows 40 ia_z), (50, 40, ia_rows 40 ia_z), (50, 40, ia_rows 40 ia_z), (6, 7, [[ia_z, ia_z, .inr (.inr (.inl (some 112))), .inr (.inr (.inl (some 113))), .inr (.inr (.inl (some 114))), .inr (.inr (.inl (some 115))), ia_z]])]
noncomputable def ia_S4_7 : List ia_C := [(50, 40, ia_rows 40 ia_z), (50, 40, ia_rows 40 ia_z), (50, 40, ia_rows 40 ia_z), (50, 40, ia_rows 40 ia_z), (0, 10, [[.inr (.inr (.inl (some 2))), .inr (.inr (.inl (some 4))), ia_z, .inr (.inr (.inl (some 117))), .inr (.inr (.inl (some 118))), .inr (.inr (.inl (some 119))), .inl (2147483647, 2147483647), .inl (2147483647, 2147483647), .inl (2147483647, 2147483647), .inl (2147483647, 2147483647)]]), (50, 40, ia_rows 40 ia_z), (50, 40, ia_rows 40 ia_z), (50, 40, ia_rows 40 ia_z), (1, 1, [[ia_z]]), (8, 11, [[ia_z, .inl (2147483647, 2147483647), .inr (.inr (.inl (some 122))), ia_z, .inr (.inr (.inl (some 123))), .inr (.inr (.inl (some 124))), .inr (.inr (.inl (some 125))), .inr (.inr (.inl (some 126))), ia_z, .inr (.inr (.inl (some 127))), ia_z]]), (50, 6, ia_rows 6 ia_z), (50, 6, ia_rows 6 ia_z), (50, 210, ia_rows 210 ia_z), (50, 4, ia_rows 4 ia_z), (50, 7, ia_rows 7 ia_z), (50, 7776, ia_rows 7776 ia_z)]
noncomputable def ia_S4_8 : List ia_C := [(4, 3, [[.inl (2147483647, 2147483647), .inl (2147483647, 2147483647), .inr (.inr (.inl (some 129)))]]), (50, 4, ia_rows 4 ia_z), (3, 4, [[ia_z, .inr (.inr (.inl (some 131))), .inr (.inr (.inl (some 145))), .inr (.inr (.inl (some 152)))]]), (9, 20, [[.inl (2147483658, 2147483658), ia_z, ia_z, ia_z, ia_z, ia_z, ia_z, .inr (.inr (.inl (some 132))), .inr (.inr (.inl (some 133))), .inr (.inr (.inl (some 134))), .inr (.inr (.inl (some 135))), .inr (.inr (.inl (some 136))), .inr (.inr (.inl (some 137))), .inr (.inr (.inl (some 138))), .inr (.inr (.inl (some 139))), .inr (.inr (.inl (some 140)))], [.inr (.inr (.inl (some 141))), .inr (.inr (.inl (some 142))), .inr (.inr (.inl (some 143))), .inr (.inr (.inl (some 144)))]]), (51, 6, ia_rows 6 (.inr (.inl 0))), (51, 4, ia_rows 4 (.inr (.inl 0))), (51, 6, ia_rows 6 (.inr (.inl 0))), (50, 6, ia_rows 6 ia_z), (50, 6, ia_rows 6 ia_z), (50, 6, ia_rows 6 ia_z), (50, 4, ia_rows 4 ia_z), (50, 4, ia_rows 4 ia_z), (50, 6, ia_rows 6 ia_z), (50, 10, ia_rows 10 ia_z), (50, 10, ia_rows 10 ia_z), (50, 10, ia_rows 10 ia_z)]
noncomputable def ia_S4_9 : List ia_C := [(50, 10, ia_rows 10 ia_z), (7, 10, [[.inr (.inr (.inl (some 131))), ia_z, ia_z, ia_z, .inr (.inr (.inl (some 146))), .inr (.inr (.inl (some 147))), .inr (.inr (.inl (some 148))), .inr (.inr (.inl (some 149))), .inr (.inr (.inl (some 150))), .inr (.inr (.inl (some 151)))]]), (50, 6, ia_rows 6 ia_z), (50, 6, ia_rows 6 ia_z), (50, 6, ia_rows 6 ia_z), (50, 4, ia_rows 4 ia_z), (50, 6, ia_rows 6 ia_z), (50, 10, ia_rows 10 ia_z), (6, 7, [[ia_z, ia_z, .inr (.inr (.inl (some 153))), .inr (.inr (.inl (some 154))), .inr (.inr (.inl (some 155))), .inr (.inr (.inl (some 156))), ia_z]]), (50, 40, ia_rows 40 ia_z), (50, 40, ia_rows 40 ia_z), (50, 40, ia_rows 40 ia_z), (50, 40, ia_rows 40 ia_z), (3, 4, [[ia_z, .inr (.inr (.inl (some 158))), .inr (.inr (.inl (some 172))), .inr (.inr (.inl (some 179)))]]), (9, 20, [[.inl (2147483658, 2147483658), ia_z, ia_z, ia_z, ia_z, ia_z, ia_z, .inr (.inr (.inl (some 159))), .inr (.inr (.inl (some 160))), .inr (.inr (.inl (some 161))), .inr (.inr (.inl (some 162))), .inr (.inr (.inl (some 163))), .inr (.inr (.inl (some 164))), .inr (.inr (.inl (some 165))), .inr (.inr (.inl (some 166))), .inr (.inr (.inl (some 167)))], [.inr (.inr (.inl (some 168))), .inr (.inr (.inl (some 169))), .inr (.inr (.inl (some 170))), .inr (.inr (.inl (some 171)))]]), (51, 6, ia_rows 6 (.inr (.inl 0)))]
noncomputable def ia_S4_10 : List ia_C := [(51, 4, ia_rows 4 (.inr (.inl 0))), (51, 6, ia_rows 6 (.inr (.inl 0))), (50, 6, ia_rows 6 ia_z), (50, 6, ia_rows 6 ia_z), (50, 6, ia_rows 6 ia_z), (50, 4, ia_rows 4 ia_z), (50, 4, ia_rows 4 ia_z), (50, 6, ia_rows 6 ia_z), (50, 10, ia_rows 10 ia_z), (50, 10, ia_rows 10 ia_z), (50, 10, ia_rows 10 ia_z), (50, 10, ia_rows 10 ia_z), (7, 10, [[.inr (.inr (.inl (some 158))), ia_z, ia_z, ia_z, .inr (.inr (.inl (some 173))), .inr (.inr (.inl (some 174))), .inr (.inr (.inl (some 175))), .inr (.inr (.inl (some 176))), .inr (.inr (.inl (some 177))), .inr (.inr (.inl (some 178)))]]), (50, 6, ia_rows 6 ia_z), (50, 6, ia_rows 6 ia_z), (50, 6, ia_rows 6 ia_z)]
noncomputable def ia_S4_11 : List ia_C := [(50, 4, ia_rows 4 ia_z), (50, 6, ia_rows 6 ia_z), (50, 10, ia_rows 10 ia_z), (6, 7, [[ia_z, ia_z, .inr (.inr (.inl (some 180))), .inr (.inr (.inl (some 181))), .inr (.inr (.inl (some 182))), .inr (.inr (.inl (some 183))), ia_z]]), (50, 40, ia_rows 40 ia_z), (50, 40, ia_rows 40 ia_z), (50, 40, ia_rows 40 ia_z), (50, 40, ia_rows 40 ia_z), (12, 48, [[ia_z, .inr (.inr (.inl (some 185))), ia_z, ia_z, ia_z, ia_z, .inr (.inr (.inl (some 186))), .inr (.inr (.inl (some 187))), .inr (.inr (.inl (some 188))), .inr (.inr (.inl (some 189))), .inr (.inr (.inl (some 190))), ia_z, ia_z, ia_z, ia_z, ia_z], [ia_z, .inr (.inl 0), ia_z, ia_z, ia_z, .inr (.inr (.inl (some 191))), .inr (.inr (.inl (some 192))), ia_z, .inr (.inr (.inl (some 193))), .inr (.inr (.inl (some 194))), .inl (2147483647, 2147483647), .inl (2147483647, 2147483647), ia_z, ia_z, ia_z, .inr (.inr (.inl (some 195)))], [.inr (.inr (.inl (some 196))), .inr (.inr (.inl (some 197))), ia_z, ia_z, .inr (.inr (.inl (some 198))), ia_z, .inr (.inr (.inl (some 199))), ia_z, ia_z, ia_z, ia_z, ia_z, .inr (.inr (.inl (some 200))), .inr (.inr (.inl (some 201))), .inr (.inr (.inl (some 202))), .inr (.inr (.inl (some 203)))]]), (52, 940, ia_rows 940 ia_z), (50, 301, [[ia_z, ia_z, ia_z, ia_z, .inl (2147483658, 2147483658), ia_z, ia_z, ia_z, ia_z, ia_z, ia_z, ia_z, ia_z, ia_z, ia_z, ia_z], [ia_z, ia_z, ia_z, ia_z, ia_z, ia_z, ia_z, ia_z, ia_z, ia_z, ia_z, ia_z, ia_z, ia_z, ia_z, ia_z], [ia_z, ia_z, ia_z, ia_z, ia_z, ia_z, ia_z, ia_z, ia_z, ia_z, ia_z, ia_z, ia_z, ia_z, ia_z, ia_z], [ia_z, ia_z, ia_z, ia_z, ia_z, ia_z, ia_z, ia_z, ia_z, ia_z, ia_z, ia_z, ia_z, ia_z, ia_z, ia_z], [ia_z, ia_z, ia_z, ia_z, ia_z, ia_z, ia_z, ia_z, ia_z, ia_z, ia_z, ia_z, ia_z, ia_z, ia_z, ia_z], [ia_z, ia_z, ia_z, ia_z, ia_z, ia_z, ia_z, ia_z, ia_z, ia_z, ia_z, ia_z, ia_z, ia_z, ia_z, ia_z], [ia_z, ia_z, ia_z, ia_z, ia_z, ia_z, ia_z, ia_z, ia_z, ia_z, ia_z, ia_z, ia_z, ia_z, ia_z, ia_z], [ia_z, ia_z, ia_z, ia_z, ia_z, ia_z, ia_z, ia_z, ia_z, ia_z, ia_z, ia_z, ia_z, ia_z, ia_z, ia_z], [ia_z, ia_z, ia_z, ia_z, ia_z, ia_z, ia_z, ia_z, ia_z, ia_z, ia_z, ia_z, ia_z, ia_z, ia_z, ia_z], [ia_z, ia_z, ia_z, ia_z, ia_z, ia_z, ia_z, ia_z, ia_z, ia_z, ia_z, ia_z, ia_z, ia_z, ia_z, ia_z], [ia_z, ia_z, ia_z, ia_z, ia_z, ia_z, ia_z, ia_z, ia_z, ia_z, ia_z, ia_z, ia_z, ia_z, ia_z, ia_z], [ia_z, ia_z, ia_z, ia_z, ia_z, ia_z, ia_z, ia_z, ia_z, ia_z, ia_z, ia_z, ia_z, ia_z, ia_z, ia_z], [ia_z, ia_z, ia_z, ia_z, ia_z, ia_z, ia_z, ia_z, ia_z, ia_z, ia_z, ia_z, ia_z, ia_z, ia_z, ia_z], [ia_z, ia_z, ia_z, ia_z, ia_z, ia_z, ia_z, ia_z, ia_z, ia_z, ia_z, ia_z, ia_z, ia_z, ia_z, ia_z], [ia_z, ia_z, ia_z, ia_z, ia_z, ia_z, ia_z, ia_z, ia_z, ia_z, ia_z, ia_z, ia_z, ia_z, ia_z, ia_z], [ia_z, ia_z, ia_z, ia_z, ia_z, ia_z, ia_z, ia_z, ia_z, ia_z, ia_z, ia_z, ia_z, ia_z, ia_z, ia_z], [ia_z, ia_z, ia_z, ia_z, ia_z, ia_z, ia_z, ia_z, ia_z, ia_z, ia_z, ia_z, ia_z, ia_z, ia_z, ia_z], [ia_z, ia_z, ia_z, ia_z, ia_z, ia_z, ia_z, ia_z, ia_z, ia_z, ia_z, ia_z, ia_z, ia_z, ia_z, ia_z], [ia_z, ia_z, ia_z, ia_z, ia_z, ia_z, ia_z, ia_z, ia_z, ia_z, ia_z, ia_z, ia_z, ia_z, ia_z, ia_z]]), (50, 79, ia_rows 79 ia_z), (50, 135, ia_rows 135 ia_z), (51, 32, ia_rows 32 (.inr (.inl 0))), (51, 22, [[.inr (.inl 1936744814), .inr (.inl 131294708393330), .inr (.inl 123581014175598), .inr (.inl 1718579044), .inr (.inl 30792258880630375), .inr (.inl 1684365940), .inr (.inl 1700885619), .inr (.inl 1634298995), .inr (.inl 469853168755), .inr (.inl 1835361652), .inr (.inl 1752135026), .inr (.inl 28530), .inr (.inl 6385252), .inr (.inl 7237492), .inr (.inl 6909036), .inr (.inl 1870095731)], [.inr (.inl 1818848101), .inr (.inl 26990), .inr (.inl 1684108389), .inr (.inl 114853572732274), .inr (.inl 1668245870), .inr (.inl 121450625394034), .inr (.inl 0), .inr (.inl 0), .inr (.inl 0), .inr (.inl 0), .inr (.inl 0), .inr (.inl 0), .inr (.inl 0), .inr (.inl 0), .inr (.inl 0), .inr (.inl 0)]]), (50, 328, ia_rows 328 ia_z)]
noncomputable def ia_S4_12 : List ia_C := [(50, 41, ia_rows 41 ia_z), (50, 9072, ia_rows 9072 ia_z), (50, 6, ia_rows 6 ia_z), (50, 4, ia_rows 4 ia_z), (50, 6, ia_rows 6 ia_z), (50, 6, ia_rows 6 ia_z), (50, 4, ia_rows 4 ia_z), (50, 45, ia_rows 45 ia_z), (53, 45, ia_rows 45 ia_z), (50, 602, ia_rows 602 ia_z), (51, 32, ia_rows 32 (.inr (.inl 0))), (53, 2, ia_rows 2 ia_z), (51, 1, ia_rows 1 (.inr (.inl 0))), (99, 0, []), (99, 0, []), (99, 0, [])]
noncomputable def ia_S4_13 : List ia_C := [(99, 0, []), (99, 0, []), (99, 0, []), (99, 0, []), (99, 0, []), (99, 0, []), (99, 0, []), (99, 0, []), (99, 0, []), (99, 0, []), (99, 0, []), (99, 0, []), (99, 0, []), (99, 0, []), (99, 0, []), (99, 0, [])]
noncomputable def ia_S4_14 : List ia_C := [(99, 0, []), (99, 0, []), (99, 0, []), (99, 0, []), (99, 0, []), (99, 0, []), (99, 0, []), (99, 0, []), (99, 0, []), (99, 0, []), (99, 0, []), (99, 0, []), (99, 0, []), (99, 0, []), (99, 0, []), (99, 0, [])]
noncomputable def ia_S4_15 : List ia_C := [(99, 0, []), (99, 0, []), (99, 0, []), (99, 0, []), (99, 0, []), (99, 0, []), (99, 0, []), (99, 0, []), (99, 0, []), (99, 0, []), (99, 0, []), (99, 0, []), (99, 0, []), (99, 0, []), (99, 0, []), (99, 0, [])]
noncomputable def ia_S4 : ia_H := [ia_S4_0, ia_S4_1, ia_S4_2, ia_S4_3, ia_S4_4, ia_S4_5, ia_S4_6, ia_S4_7, ia_S4_8, ia_S4_9, ia_S4_10, ia_S4_11, ia_S4_12, ia_S4_13, ia_S4_14, ia_S4_15]
noncomputable def ia_eqV (a b : ia_V) : Bool := match a, b with
  | .inl p, .inl q => Nat.beq p.1 q.1 && Nat.beq p.2 q.2
  | .inr (.inl p), .inr (.inl q) => Nat.beq p q
  | .inr (.inr (.inl none)), .inr (.inr (.inl none)) => true
  | .inr (.inr (.inl (some p))), .inr (.inr (.inl (some q))) => Nat.beq p q
  | .inr (.inr (.inr p)), .inr (.inr (.inr q)) => Nat.beq p q
  | _, _ => false
theorem ia_eqV_ok {a b : ia_V} (h : ia_eqV a b = true) : a = b := by
  unfold ia_eqV at h
  split at h
  · rename_i p q
    rw [Bool.and_eq_true] at h
    obtain ⟨p1, p2⟩ := p
    obtain ⟨q1, q2⟩ := q
    have h1 : p1 = q1 := ia_beq h.1
    have h2 : p2 = q2 := ia_beq h.2
    rw [h1, h2]
  · rw [ia_beq h]
  · rfl
  · rw [ia_beq h]
  · rw [ia_beq h]
  · cases h
noncomputable def ia_eqL {α : Type} (f : α → α → Bool) : List α → List α → Bool
  | [], [] => true
  | a :: l, b :: r => f a b && ia_eqL f l r
  | _, _ => false
theorem ia_eqL_ok {α : Type} {f : α → α → Bool} (hf : ∀ a b, f a b = true → a = b) : ∀ (l r : List α), ia_eqL f l r = true → l = r
  | [], [], _ => rfl
  | a :: l, b :: r, h => by
    have h' : (f a b && ia_eqL f l r) = true := h
    rw [Bool.and_eq_true] at h'
    rw [hf a b h'.1, ia_eqL_ok hf l r h'.2]
  | [], _ :: _, h => by cases h
  | _ :: _, [], h => by cases h
noncomputable def ia_eqC (c d : ia_C) : Bool := Nat.beq c.1 d.1 && (Nat.beq c.2.1 d.2.1 && ia_eqL (ia_eqL ia_eqV) c.2.2 d.2.2)
theorem ia_eqC_ok (c d : ia_C) (h : ia_eqC c d = true) : c = d := by
  unfold ia_eqC at h
  simp only [Bool.and_eq_true] at h
  obtain ⟨c1, c2, c3⟩ := c
  obtain ⟨d1, d2, d3⟩ := d
  have e1 : c1 = d1 := ia_beq h.1
  have e2 : c2 = d2 := ia_beq h.2.1
  have e3 : c3 = d3 := ia_eqL_ok (fun a b => ia_eqL_ok (fun _ _ => ia_eqV_ok) a b) _ _ h.2.2
  rw [e1, e2, e3]
set_option maxRecDepth 100000 in
theorem ia_S4_chk : ia_eqL (ia_eqL ia_eqC) ia_s4 ia_S4 = true := by decide +kernel
theorem ia_S4_eq : ia_s4 = ia_S4 := ia_eqL_ok (fun a b => ia_eqL_ok ia_eqC_ok a b) _ _ ia_S4_chk
noncomputable def ia_end (x : Option ia_O) (k : Nat) : Bool := match x with
  | some (none, _, n) => Nat.beq n k
  | _ => false
theorem ia_end_ok {x : Option ia_O} {k : Nat} (h : ia_end x k = true) : x = some (none, (x.getD (none, [], 0)).2.1, k) := by
  unfold ia_end at h
  split at h
  · rw [ia_beq h]; rfl
  · cases h
set_option maxRecDepth 100000 in
theorem ia_r1_chk : ia_end (ia_call 7 0 [.inr (.inr (.inl (some 0)))] ia_i0 1) 184 = true := by decide +kernel
theorem ia_r1_ok : ia_call 7 0 [.inr (.inr (.inl (some 0)))] ia_i0 1 = some (none, ia_r1.2.1, 184) := by
  unfold ia_r1
  exact ia_end_ok ia_r1_chk
set_option maxRecDepth 100000 in
theorem ia_r3_chk : ia_end (ia_call 7 89 [.inr (.inr (.inl (some 184)))] ia_i2 185) 204 = true := by decide +kernel
theorem ia_r3_ok : ia_call 7 89 [.inr (.inr (.inl (some 184)))] ia_i2 185 = some (none, ia_r3.2.1, 204) := by
  unfold ia_r3
  exact ia_end_ok ia_r3_chk
/-! ### the same world, over the plain machine -/
def jSp : List (Nat × Nat × Int) := [(4, 0, 10), (18, 0, 10), (116, 6, -1), (116, 7, -1), (116, 8, -1), (116, 9, -1), (121, 1, -1), (128, 0, -1), (128, 1, -1), (131, 0, 10), (158, 0, 10), (184, 26, -1), (184, 27, -1), (186, 4, 10)]
def jSq : List (Nat × Nat × Int) := [(3, 0, 639022), (3, 1, 781668530), (3, 2, 542723566), (3, 3, 212452), (3, 4, 14132323783), (3, 5, 136276), (3, 6, 165523), (3, 7, 42387), (3, 8, 13809811), (3, 9, 431284), (3, 10, 278194), (3, 11, 498), (3, 12, 1476), (3, 13, 14836), (3, 14, 9612), (3, 15, 515251), (3, 16, 402789), (3, 17, 302), (3, 18, 132741), (3, 19, 290921650), (3, 20, 113966), (3, 21, 492210354), (190, 0, 1936744814), (190, 1, 131294708393330), (190, 2, 123581014175598), (190, 3, 1718579044), (190, 4, 30792258880630375), (190, 5, 1684365940), (190, 6, 1700885619), (190, 7, 1634298995), (190, 8, 469853168755), (190, 9, 1835361652), (190, 10, 1752135026), (190, 11, 28530), (190, 12, 6385252), (190, 13, 7237492), (190, 14, 6909036), (190, 15, 1870095731), (190, 16, 1818848101), (190, 17, 26990), (190, 18, 1684108389), (190, 19, 114853572732274), (190, 20, 1668245870), (190, 21, 121450625394034)]
def jLk (l : List (Nat × Nat × Int)) (k i : Nat) : Int := match l with
  | [] => 0
  | q :: t => if q.1 = k ∧ q.2.1 = i then q.2.2 else jLk t k i
def jW0 : cm_W := (fun k i => Int32.ofInt (jLk jSp k i), fun k i => Int64.ofInt (jLk jSq k i))
theorem jLk_no {k : Nat} : ∀ (l : List (Nat × Nat × Int)) (i : Nat), l.all (fun q => !(Nat.beq q.1 k)) = true → jLk l k i = 0
  | [], i, _ => rfl
  | q :: t, i, h => by
    rw [List.all_cons, Bool.and_eq_true] at h
    unfold jLk
    rw [if_neg (fun z => by have := h.1; rw [z.1] at this; simp at this)]
    exact jLk_no t i h.2
theorem jLk_in : ∀ (l : List (Nat × Nat × Int)) (k i : Nat), jLk l k i = 0 ∨ (k, i, jLk l k i) ∈ l
  | [], k, i => Or.inl rfl
  | q :: t, k, i => by
    unfold jLk
    split
    · rename_i h
      exact Or.inr (List.mem_cons.mpr (Or.inl (by rw [← h.1, ← h.2])))
    · rcases jLk_in t k i with h | h
      · exact Or.inl h
      · exact Or.inr (List.mem_cons_of_mem _ h)
theorem jz_rows {n i : Nat} {z : ia_V} (h : i < n) : ia_get2 (ia_rows n z) i = some z := by
  refine ia_get2_of (c := List.replicate 16 z) ?_ ?_
  · unfold ia_rows
    rw [List.getElem?_replicate]
    exact if_pos (show i / 16 < (n + 15) / 16 by omega)
  · rw [List.getElem?_replicate, if_pos (by omega)]
noncomputable def jz_z (t : Nat) : ia_V := match Nat.beq t 51 with
  | true => .inr (.inl 0)
  | false => ia_z
noncomputable def jz_a (k : Nat) : Bool := match cm_sh k, ia_get2 ia_S4 k with
  | some c, some c0 => Nat.beq c.1 c0.1 && (Nat.beq c.2.1 c0.2.1 && (c.2.2.isEmpty && (ia_eqL (ia_eqL ia_eqV) c0.2.2 (ia_rows c.2.1 (jz_z c.1)) && (jSp.all (fun q => !(Nat.beq q.1 k)) && jSq.all (fun q => !(Nat.beq q.1 k))))))
  | _, _ => false
noncomputable def jz_eo (a : Option ia_V) (b : ia_V) : Bool := match a with
  | some a => ia_eqV a b
  | none => false
noncomputable def jz_b (k : Nat) : Bool := match cm_sh k, ia_get2 ia_S4 k with
  | some c, some c0 => Nat.beq c.1 c0.1 && (Nat.beq c.2.1 c0.2.1 && (List.range c.2.1).all (fun i => jz_eo (ia_get2 c0.2.2 i) (cm_e (cm_v jW0 k i (cm_code c i)))))
  | _, _ => false
set_option maxRecDepth 100000 in
theorem jz_ca : ([1, 5, 6, 7, 8, 9, 10, 11, 12, 13, 14, 15, 16, 17, 19, 20, 21, 22, 23, 24, 25, 26, 27, 28, 29, 30, 31, 34, 35, 36, 37, 38, 39, 41, 42, 43, 44, 45, 46, 50, 51, 52, 53, 54, 55, 57, 58, 59, 60, 61, 62, 64, 65, 66, 67, 68, 69, 71, 72, 73, 74, 75, 76, 78, 79, 80, 81, 82, 83, 85, 86, 87, 88, 89, 90, 92, 93, 94, 95, 96, 97, 99, 100, 101, 102, 103, 104, 107, 108, 109, 110, 112, 113, 114, 115, 117, 118, 119, 122, 123, 124, 125, 126, 127, 129, 132, 133, 134, 135, 136, 137, 138, 139, 140, 141, 142, 143, 144, 146, 147, 148, 149, 150, 151, 153, 154, 155, 156, 159, 160, 161, 162, 163, 164, 165, 166, 167, 168, 169, 170, 171, 173, 174, 175, 176, 177, 178, 180, 181, 182, 183, 185, 187, 188, 189, 191, 192, 193, 194, 195, 196, 197, 198, 199, 200, 201, 202, 203, 204] : List Nat).all jz_a = true := by decide +kernel
set_option maxRecDepth 100000 in
theorem jz_cb : ([0, 2, 3, 4, 18, 32, 33, 40, 47, 48, 49, 56, 63, 70, 77, 84, 91, 98, 105, 106, 111, 116, 120, 121, 128, 130, 131, 145, 152, 157, 158, 172, 179, 184, 186, 190] : List Nat).all jz_b = true := by decide +kernel
theorem jz_cab : (List.range 205).all (fun k => ([1, 5, 6, 7, 8, 9, 10, 11, 12, 13, 14, 15, 16, 17, 19, 20, 21, 22, 23, 24, 25, 26, 27, 28, 29, 30, 31, 34, 35, 36, 37, 38, 39, 41, 42, 43, 44, 45, 46, 50, 51, 52, 53, 54, 55, 57, 58, 59, 60, 61, 62, 64, 65, 66, 67, 68, 69, 71, 72, 73, 74, 75, 76, 78, 79, 80, 81, 82, 83, 85, 86, 87, 88, 89, 90, 92, 93, 94, 95, 96, 97, 99, 100, 101, 102, 103, 104, 107, 108, 109, 110, 112, 113, 114, 115, 117, 118, 119, 122, 123, 124, 125, 126, 127, 129, 132, 133, 134, 135, 136, 137, 138, 139, 140, 141, 142, 143, 144, 146, 147, 148, 149, 150, 151, 153, 154, 155, 156, 159, 160, 161, 162, 163, 164, 165, 166, 167, 168, 169, 170, 171, 173, 174, 175, 176, 177, 178, 180, 181, 182, 183, 185, 187, 188, 189, 191, 192, 193, 194, 195, 196, 197, 198, 199, 200, 201, 202, 203, 204] : List Nat).contains k || ([0, 2, 3, 4, 18, 32, 33, 40, 47, 48, 49, 56, 63, 70, 77, 84, 91, 98, 105, 106, 111, 116, 120, 121, 128, 130, 131, 145, 152, 157, 158, 172, 179, 184, 186, 190] : List Nat).contains k) = true := by decide +kernel
/-- slot by slot it is the same -/
def jz_P (k : Nat) : Prop := ∃ c c0, cm_sh k = some c ∧ ia_get2 ia_S4 k = some c0 ∧ c.1 = c0.1 ∧ c.2.1 = c0.2.1 ∧ ∀ i, i < c.2.1 → ia_get2 c0.2.2 i = some (cm_e (cm_v jW0 k i (cm_code c i)))
theorem jz_eo_ok {a : Option ia_V} {b : ia_V} (h : jz_eo a b = true) : a = some b := by
  unfold jz_eo at h
  split at h
  · rw [ia_eqV_ok h]
  · cases h
theorem jz_Pb {k : Nat} (h : jz_b k = true) : jz_P k := by
  unfold jz_b at h
  split at h
  · rename_i c c0 h1 h2
    simp only [Bool.and_eq_true] at h
    exact ⟨c, c0, h1, h2, ia_beq h.1, ia_beq h.2.1, fun i hi => jz_eo_ok (List.all_eq_true.mp h.2.2 i (List.mem_range.mpr hi))⟩
  · cases h
theorem jz_Pa {k : Nat} (h : jz_a k = true) : jz_P k := by
  unfold jz_a at h
  split at h
  · rename_i c c0 h1 h2
    simp only [Bool.and_eq_true] at h
    obtain ⟨g1, g2, g3, g4, g5, g6⟩ := h
    refine ⟨c, c0, h1, h2, ia_beq g1, ia_beq g2, fun i hi => ?_⟩
    rw [ia_eqL_ok (fun a b => ia_eqL_ok (fun _ _ => ia_eqV_ok) a b) _ _ g4, jz_rows hi]
    have hn : c.2.2 = [] := List.isEmpty_iff.mp g3
    have hc : cm_code c i = (match Nat.beq c.1 51 with
      | true => 1
      | false => 0) := by
      unfold cm_code
      rw [hn]
      cases i <;> rfl
    rw [hc]
    unfold jz_z
    cases Nat.beq c.1 51 with
    | true =>
      show some (Sum.inr (Sum.inl 0)) = some (cm_e (.inr (.inl (Int64.ofInt (jLk jSq k i)))))
      rw [jLk_no _ _ g6]
      rfl
    | false =>
      show some ia_z = some (cm_e (.inl (Int32.ofInt (jLk jSp k i))))
      rw [jLk_no _ _ g5]
      show some ia_z = some (.inl (ia_E 0, ia_E 0))
      rw [ia_E0]
      rfl
  · cases h
theorem jz_ok {k : Nat} (hk : k < 205) : jz_P k := by
  have h := List.all_eq_true.mp jz_cab k (List.mem_range.mpr hk)
  rw [Bool.or_eq_true] at h
  rcases h with h | h
  · exact jz_Pa (List.all_eq_true.mp jz_ca k (List.elem_iff.mp h))
  · exact jz_Pb (List.all_eq_true.mp jz_cb k (List.elem_iff.mp h))
/-! ### rows of fields, filled up -/
def jPd (ci : Nat) (vs : List Value) : List Value := (List.range 64).map (fun k => match vwCl[ci]? with
  | some r => if k < r.2.2 then vp_V vs k else .int 0
  | none => .int 0)
def jPe (e : va_E) : va_E := match e with
  | .inl a => .inl a
  | .inr o => .inr (o.1, jPd o.1 o.2)
def jPad (ws : va_W) : va_W := ws.map (fun q => (q.1, jPe q.2))
theorem jPad_fst (ws : va_W) : (jPad ws).map Prod.fst = ws.map Prod.fst := by
  unfold jPad
  rw [List.map_map]
  rfl
theorem jPad_len (ws : va_W) : (jPad ws).length = ws.length := by
  unfold jPad
  rw [List.length_map]
theorem jPad_at {ws : va_W} {k : Nat} {q : Nat × va_E} (h : (jPad ws)[k]? = some q) : ∃ q0, ws[k]? = some q0 ∧ q = (q0.1, jPe q0.2) := by
  unfold jPad at h
  rw [List.getElem?_map] at h
  cases hw : ws[k]? with
  | none => rw [hw] at h; cases h
  | some q0 => rw [hw] at h; cases h; exact ⟨q0, rfl, rfl⟩
theorem jPad_mk {ws : va_W} {k : Nat} {q0 : Nat × va_E} (h : ws[k]? = some q0) : (jPad ws)[k]? = some (q0.1, jPe q0.2) := by
  unfold jPad
  rw [List.getElem?_map, h]
  rfl
theorem jz_vw : vwCl.all (fun r => Nat.ble r.2.2 64) = true := by decide +kernel
theorem jPd_at {ci k : Nat} {vs : List Value} {r : vw_C} (hr : vwCl[ci]? = some r) (hk : k < 64) : (jPd ci vs)[k]? = some (if k < r.2.2 then vp_V vs k else .int 0) := by
  unfold jPd
  rw [List.getElem?_map, List.getElem?_range hk, hr]
  rfl
theorem jPad_P {D : va_G} {ws : va_W} {H : Heap} (h : va_P D vwCl ws H) : va_P D vwCl (jPad ws) H := by
  intro k q hq
  obtain ⟨q0, h0, rfl⟩ := jPad_at hq
  have h1 := h k q0 h0
  obtain ⟨a, e⟩ := q0
  cases e with
  | inl a => exact h1
  | inr o =>
    obtain ⟨r, hr, cell, c1, c2, c3, c4⟩ := h1
    refine ⟨r, hr, cell, c1, c2, c3, fun j hj => ?_⟩
    have hj' : j < r.2.2 := hj
    have h64 : r.2.2 ≤ 64 := ia_ble (List.all_eq_true.mp jz_vw r (List.mem_of_getElem? hr))
    rw [c4 j hj]
    show some (vp_V o.2 j) = some (vp_V (jPd o.1 o.2) j)
    have e1 : vp_V (jPd o.1 o.2) j = vp_V o.2 j := by
      show (jPd o.1 o.2).getD j .null = _
      rw [List.getD_eq_getElem?_getD, jPd_at hr (by omega), if_pos hj']
      rfl
    rw [e1]
theorem jPad_D {A : Nat → Prop} {ws : va_W} (h : va_D A ws) : va_D A (jPad ws) := by
  refine ⟨fun i j p q hp hq hpq => ?_, fun k q hq => ?_⟩
  · obtain ⟨p0, h1, rfl⟩ := jPad_at hp
    obtain ⟨q0, h2, rfl⟩ := jPad_at hq
    exact h.1 i j p0 q0 h1 h2 hpq
  · obtain ⟨q0, h2, rfl⟩ := jPad_at hq
    exact h.2 k q0 h2
theorem jz_sz : (List.range 205).all (fun k => match cm_sh k with
  | some c => Nat.ble 50 c.1 || (match vwCl[c.1]? with
    | some r => Nat.beq r.2.2 c.2.1 && (Nat.ble c.2.1 64 && Nat.beq c.2.2.length c.2.1)
    | none => false)
  | none => false) = true := by decide +kernel
theorem cm_s_no {w : cm_W} {k : Nat} {c : ia_C} (h : ia_get2 (cm_s w) k = some c) (hc : c.1 ≠ 99) : ∃ sh, cm_sh k = some sh ∧ c = (sh.1, sh.2.1, cm_tab sh.2.1 (fun i => cm_e (cm_v w k i (cm_code sh i)))) ∧ k < 205 := by
  cases hs : cm_sh k with
  | some sh =>
    rw [cm_s_get hs] at h
    cases h
    refine ⟨sh, rfl, rfl, ?_⟩
    unfold cm_sh at hs
    rw [ia_at_eq] at hs
    have := (List.getElem?_eq_some_iff.mp hs).1
    rw [cm_Sh_len] at this
    exact this
  | none =>
    exfalso
    by_cases hk : k < 256
    · unfold cm_s at h
      rw [cm_tab_get _ _ _ hk, cm_cell, hs] at h
      cases h
      exact hc rfl
    · obtain ⟨r, h1, h2⟩ := ia_get2_eq h
      have := (List.getElem?_eq_some_iff.mp h1).1
      rw [cm_s, cm_tab_len] at this
      omega
theorem cm_tab_get16 {α : Type} {len k : Nat} {f : Nat → α} {a : α} (h : ia_get2 (cm_tab len f) k = some a) : a = f k ∧ k < 16 * ((len + 15) / 16) := by
  obtain ⟨r, h1, h2⟩ := ia_get2_eq h
  have h3 := (List.getElem?_eq_some_iff.mp h1).1
  rw [cm_tab_len] at h3
  rw [cm_tab_at _ _ _ h3] at h1
  cases h1
  rw [cm_row_at _ _ _ (Nat.mod_lt _ (by decide))] at h2
  cases h2
  exact ⟨by congr 1; omega, by omega⟩
theorem jz_spi : jSp.all (fun q => match cm_sh q.1 with
  | some c => Nat.blt q.2.1 c.2.1
  | none => false) = true := by decide +kernel
theorem jz_R {sa : Nat × Nat} {tys : List (ClassId × FieldType)} {ws : va_W} (h : ia_R sa tys ia_S4 ws) : ia_R sa tys (cm_s jW0) (jPad ws) := by
  intro k c hc hn
  obtain ⟨sh, hs, rfl, hk⟩ := cm_s_no hc hn
  obtain ⟨sh', c0, e1, e2, e3, e4, e5⟩ := jz_ok hk
  rw [hs] at e1
  cases e1
  have hz := List.all_eq_true.mp jz_sz k (List.mem_range.mpr hk)
  rw [hs] at hz
  obtain ⟨q, hq, hcc⟩ := h k c0 e2 (by rw [← e3]; exact hn)
  refine ⟨_, jPad_mk hq, ?_⟩
  rw [jPad_fst]
  obtain ⟨a, e⟩ := q
  have hcc : ia_c sa (ws.map Prod.fst) tys c0 e := hcc
  have hz : (Nat.ble 50 sh.1 || (match vwCl[sh.1]? with
    | some r => Nat.beq r.2.2 sh.2.1 && (Nat.ble sh.2.1 64 && Nat.beq sh.2.2.length sh.2.1)
    | none => false)) = true := hz
  show ia_c sa (ws.map Prod.fst) tys (sh.1, sh.2.1, cm_tab sh.2.1 (fun i => cm_e (cm_v jW0 k i (cm_code sh i)))) (jPe e)
  have key : ∀ (i : Nat) (b : ia_V), ia_get2 (cm_tab sh.2.1 (fun i => cm_e (cm_v jW0 k i (cm_code sh i)))) i = some b → i < sh.2.1 → ia_get2 c0.2.2 i = some b := fun i b hb hi => by
    rw [(cm_tab_get16 hb).1]
    exact e5 i hi
  refine ⟨fun z => ?_, fun z => ?_, fun z => ?_, fun z => ?_, fun z => ?_, fun z => ?_, fun z => ?_⟩
  · have z : sh.1 < 50 := z
    obtain ⟨vs, rfl, g⟩ := hcc.1 (by omega)
    rw [Bool.or_eq_true] at hz
    rcases hz with hz | hz
    · have := ia_ble hz; omega
    · split at hz
      · rename_i r hr
        simp only [Bool.and_eq_true] at hz
        have f1 := ia_beq hz.1
        have f2 := ia_ble hz.2.1
        have f3 := ia_beq hz.2.2
        rw [e3] at hr
        refine ⟨jPd c0.1 vs, by show Sum.inr (c0.1, jPd c0.1 vs) = Sum.inr (sh.1, _); rw [e3], fun i b hb => ?_⟩
        have hb : ia_get2 (cm_tab sh.2.1 (fun i => cm_e (cm_v jW0 k i (cm_code sh i)))) i = some b := hb
        obtain ⟨g1, g2⟩ := cm_tab_get16 hb
        refine ⟨_, jPd_at hr (by omega), ?_⟩
        by_cases hi : i < sh.2.1
        · rw [if_pos (by omega)]
          obtain ⟨v, v1, v2⟩ := g i b (key i b hb hi)
          have : vp_V vs i = v := by
            show vs.getD i .null = v
            rw [List.getD_eq_getElem?_getD, v1]
            rfl
          rw [this]
          exact v2
        · rw [if_neg (by omega)]
          have hcd : cm_code sh i = 0 := by
            unfold cm_code
            rw [ia_at_eq, List.getElem?_eq_none (by omega)]
            have : Nat.beq sh.1 51 = false := by
              cases hb2 : Nat.beq sh.1 51 with
              | true => have := ia_beq hb2; omega
              | false => rfl
            rw [this]
          have hv : b = .inl (ia_E (jW0.1 k i), ia_E (jW0.1 k i)) := by
            rw [g1, hcd]
            rfl
          have h0 : jW0.1 k i = 0 := by
            show Int32.ofInt (jLk jSp k i) = 0
            rcases jLk_in jSp k i with q | q
            · rw [q]; rfl
            · exfalso
              have := List.all_eq_true.mp jz_spi _ q
              rw [hs] at this
              have := ia_blt (show Nat.blt i sh.2.1 = true from this)
              omega
          rw [hv, h0]
          exact ⟨0, rfl, Nat.le_refl _, Nat.le_refl _⟩
      · cases hz
  · have z : sh.1 = 50 := z
    obtain ⟨cA, f, rfl, g1, g2⟩ := hcc.2.1 (by omega)
    exact ⟨cA, f, by rw [← e4]; rfl, g1, fun i b hb hi => g2 i b (key i b hb hi) (by rw [← e4]; exact hi)⟩
  · have z : sh.1 = 51 := z
    obtain ⟨cA, f, rfl, g1, g2⟩ := hcc.2.2.1 (by omega)
    exact ⟨cA, f, by rw [← e4]; rfl, g1, fun i b hb hi => g2 i b (key i b hb hi) (by rw [← e4]; exact hi)⟩
  · have z : sh.1 = 52 := z
    obtain ⟨cA, f, rfl, g1, g2⟩ := hcc.2.2.2.1 (by omega)
    exact ⟨cA, f, by rw [← e4]; rfl, g1, fun i b hb hi => g2 i b (key i b hb hi) (by rw [← e4]; exact hi)⟩
  · have z : sh.1 = 53 := z
    obtain ⟨cA, f, rfl, g1, g2⟩ := hcc.2.2.2.2.1 (by omega)
    exact ⟨cA, f, by rw [← e4]; rfl, g1, fun i b hb hi => g2 i b (key i b hb hi) (by rw [← e4]; exact hi)⟩
  · have z : sh.1 = 54 := z
    obtain ⟨cA, f, rfl, g1, g2⟩ := hcc.2.2.2.2.2.1 (by omega)
    exact ⟨cA, f, by rw [← e4]; rfl, g1, fun i b hb hi => g2 i b (key i b hb hi) (by rw [← e4]; exact hi)⟩
  · have z : sh.1 = 55 := z
    obtain ⟨cA, f, rfl, g1, g2⟩ := hcc.2.2.2.2.2.2 (by omega)
    exact ⟨cA, f, by rw [← e4]; rfl, g1, fun i b hb hi => g2 i b (key i b hb hi) (by rw [← e4]; exact hi)⟩
/-! ### it keeps what is so between two rounds -/
theorem jz_sg : sg.all (fun r => r.all (fun c => c.all (fun q => (Nat.ble q.2.1 2147483648 && Nat.ble 2147483648 q.2.2) || Nat.beq q.1 5))) = true := by decide +kernel
theorem jz_sg2 : (List.range 256).all (fun k => Nat.beq k 186 || (sv_gr sg k).all (fun q => Nat.ble q.2.1 2147483648 && Nat.ble 2147483648 q.2.2)) = true := by decide +kernel
theorem jz_sg3 : ([0, 1, 2, 3] : List Nat).all (fun i => Nat.ble (sv_g sg 186 i).1 2147483648 && Nat.ble 2147483648 (sv_g sg 186 i).2) = true := by decide +kernel
theorem jz_rn : ∀ (l : List (Nat × Nat × Nat)) (i : Nat), l.all (fun q => (Nat.ble q.2.1 2147483648 && Nat.ble 2147483648 q.2.2) || (Nat.beq q.1 5 && Nat.ble 5 i)) = true → sv_in (sv_rn l i) 0
  | [], i, _ => sv_in_top _
  | q :: t, i, h => by
    rw [List.all_cons, Bool.and_eq_true, Bool.or_eq_true, Bool.and_eq_true, Bool.and_eq_true] at h
    show sv_in (cond (Nat.blt i q.1) q.2 (sv_rn t i)) 0
    cases hq : Nat.blt i q.1 with
    | true =>
      rcases h.1 with h1 | h1
      · exact ⟨by rw [ia_E0]; exact ia_ble h1.1, by rw [ia_E0]; exact ia_ble h1.2⟩
      · have := ia_beq h1.1
        have := ia_ble h1.2
        have := ia_blt hq
        omega
    | false => exact jz_rn t i h.2
theorem jz_all {α : Type} {f g : α → Bool} {l : List α} (h : l.all f = true) (hf : ∀ a, f a = true → g a = true) : l.all g = true := List.all_eq_true.mpr (fun a ha => hf a (List.all_eq_true.mp h a ha))
theorem jz_g0 (k i : Nat) (hn : ¬ (k = 186 ∧ i = 4)) : sv_in (sv_g sg k i) 0 := by
  by_cases hk : k = 186
  · subst hk
    by_cases hi : 5 ≤ i
    · refine jz_rn _ i ?_
      unfold sv_gr
      cases h : ia_get2 sg 186 with
      | none => rfl
      | some c =>
        obtain ⟨r, h1, h2⟩ := ia_get2_eq h
        refine jz_all (List.all_eq_true.mp (List.all_eq_true.mp jz_sg r (List.mem_of_getElem? h1)) c (List.mem_of_getElem? h2)) (fun q hq => ?_)
        rw [Bool.or_eq_true] at hq ⊢
        rcases hq with hq | hq
        · exact Or.inl hq
        · exact Or.inr (by rw [hq, Nat.ble_eq.mpr hi]; rfl)
    · have := List.all_eq_true.mp jz_sg3 i (by
        have : i = 0 ∨ i = 1 ∨ i = 2 ∨ i = 3 := by omega
        rcases this with rfl | rfl | rfl | rfl <;> decide)
      rw [Bool.and_eq_true] at this
      exact ⟨by rw [ia_E0]; exact ia_ble this.1, by rw [ia_E0]; exact ia_ble this.2⟩
  · refine jz_rn _ i ?_
    by_cases hk2 : k < 256
    · have := List.all_eq_true.mp jz_sg2 k (List.mem_range.mpr hk2)
      rw [Bool.or_eq_true] at this
      rcases this with h | h
      · exact absurd (ia_beq h) hk
      · exact jz_all h (fun q hq => by rw [hq]; rfl)
    · unfold sv_gr
      cases h : ia_get2 sg k with
      | none => rfl
      | some c =>
        exfalso
        obtain ⟨r, h1, h2⟩ := ia_get2_eq h
        have := (List.getElem?_eq_some_iff.mp h1).1
        have h16 : sg.length = 16 := by decide +kernel
        omega
set_option maxRecDepth 100000 in
theorem jz_gs : jSp.all (fun q => Nat.ble (sv_g sg q.1 q.2.1).1 (ia_E (Int32.ofInt q.2.2)) && Nat.ble (ia_E (Int32.ofInt q.2.2)) (sv_g sg q.1 q.2.1).2) = true := by decide +kernel
theorem jz_w : sv_w sg jW0 := by
  intro k i
  show sv_in (sv_g sg k i) (Int32.ofInt (jLk jSp k i))
  rcases jLk_in jSp k i with h | h
  · rw [h]
    refine jz_g0 k i (fun z => ?_)
    rw [z.1, z.2] at h
    exact absurd h (by decide)
  · have := List.all_eq_true.mp jz_gs _ h
    rw [Bool.and_eq_true] at this
    exact ⟨ia_ble this.1, ia_ble this.2⟩
theorem jz_0 {k i : Nat} (h : jLk jSp k i = 0) : (jW0.1 k i).toInt = 0 := by
  show (Int32.ofInt (jLk jSp k i)).toInt = 0
  rw [h]
  rfl
theorem jz_n {k : Nat} (h : jSp.all (fun q => !(Nat.beq q.1 k)) = true) (i : Nat) : (jW0.1 k i).toInt = 0 := jz_0 (jLk_no _ _ h)
theorem jz_f0 (f : Nat → Int32) : hPf 0 f := ⟨by decide, fun _ => 0, rfl, fun _ _ => Nat.zero_le _, fun i h => absurd h (Nat.not_lt_zero _)⟩
theorem jz_L {c v : Nat} (h : (jW0.1 v 4).toInt = 0) : jL c v jW0 := fun f hf hv => by rw [h] at hv; omega
theorem jz_Rr {s : Nat} (h : (jW0.1 s 1).toInt = 0) : jR s jW0 := fun i hi hv => by rw [h] at hv; omega
theorem jz_w3 : ∀ k, k < 22 → Int64.ofInt (jLk jSq 3 k) = Int64.ofNat (tx_rw.getD k 0) := by decide +kernel
theorem jz_w190 : ∀ k, k < 22 → Int64.ofInt (jLk jSq 190 k) = Int64.ofNat (tx_F (tx_rw.getD k 0)) := by decide +kernel
theorem jz_v : ∀ j, j < 7 → vl_H jW0 4 j = ps_h0 j ∧ (jW0.1 186 j).toInt = ps_h0 j := by
  intro j hj
  rcases (show j = 0 ∨ j = 1 ∨ j = 2 ∨ j = 3 ∨ j = 4 ∨ j = 5 ∨ j = 6 by omega) with rfl | rfl | rfl | rfl | rfl | rfl | rfl
  all_goals exact ⟨by decide, by decide⟩
theorem jz_Q {F : Nat → Nat} {f : Nat → Int} {g : Nat → Int64} (h : ∀ j, j < 7 → f j = ps_h0 j) : ps_Q F f g ps_h0 (fun _ => 0) := by
  have z0 : ps_h0 0 = 0 := rfl
  have z1 : ps_h0 1 = 0 := rfl
  have z2 : ps_h0 2 = 0 := rfl
  have z3 : ps_h0 3 = 0 := rfl
  refine ⟨fun j hj => ?_, fun j hj => ?_, ?_⟩
  · unfold ps_lv at hj
    rw [z0, z1, z2, z3] at hj
    exact h j (by omega)
  · exfalso
    unfold ps_ln at hj
    rw [z0, z1, z2] at hj
    omega
  · unfold ps_bd
    rw [z0, z1, z2, z3]
    omega
theorem jz_rl : jRl jW0 := by
  refine ⟨fun j hj => ?_, jz_w3, jz_w190, ⟨ps_h0, fun _ => 0, jz_Q (fun j hj => (jz_v j hj).1), jz_Q (fun j hj => (jz_v j hj).2)⟩, fun z => absurd (jz_0 (k := 130) (i := 0) (by decide)) z, fun z => absurd (jz_0 (k := 157) (i := 0) (by decide)) z⟩
  have e1 := jz_n (k := 1) (by decide) j
  have e2 : jW0.1 185 j = 0 := Int32.toInt_inj.mp (jz_n (k := 185) (by decide) j)
  rw [e1, e2]
  exact ⟨by decide, by decide, by decide⟩
theorem jz_iw : jIv 0 jW0 := by
  refine ⟨⟨jz_w, ⟨0, jz_0 (by decide), jz_f0 _⟩, ⟨⟨0, jz_n (by decide) _, jz_f0 _⟩, fun h => absurd (jz_n (by decide) _) h⟩, ⟨⟨0, jz_n (by decide) _, jz_f0 _⟩, fun h => absurd (jz_n (by decide) _) h⟩, ⟨jz_L (jz_0 (by decide)), fun j hj => ?_, jz_L (jz_0 (by decide)), jz_L (jz_0 (by decide))⟩, jz_Rr (jz_0 (by decide)), jz_Rr (jz_0 (by decide)), jz_Rr (jz_0 (by decide)), 0, by decide, by decide, jz_0 (by decide), fun i hi => ?_⟩, ?_, ⟨?_, ?_⟩, jz_rl⟩
  · rw [jz_0 (k := 47) (i := 2) (by decide)] at hj
    exact absurd hj (Nat.not_lt_zero _)
  · rw [jz_n (k := 127) (by decide) i]
    exact ⟨by decide, by decide⟩
  · rw [jz_0 (k := 0) (i := 1) (by decide), jz_0 (k := 184) (i := 2) (by decide)]
  · rw [jz_0 (k := 130) (i := 0) (by decide), jz_0 (k := 203) (i := 0) (by decide)]
  · rw [jz_0 (k := 157) (i := 0) (by decide), jz_0 (k := 203) (i := 1) (by decide)]
theorem jz_ix : jIf 0 jW0 := ⟨jz_iw, by unfold jFt; rw [jz_0 (k := 0) (i := 3) (by decide), jz_0 (k := 184) (i := 15) (by decide)]⟩
