/-! ## the world behind the constructors -/
noncomputable def ia_i0 : ia_H := ia_set2 ia_w0 0 (11, (ia_Fs.getD 11 (0, [])))
noncomputable def ia_r1 : ia_O := (ia_call 7 0 [.inr (.inr (.inl (some 0)))] ia_i0 1).getD (none, [], 0)
noncomputable def ia_i2 : ia_H := ia_set2 ia_r1.2.1 184 (12, (ia_Fs.getD 12 (0, [])))
noncomputable def ia_r3 : ia_O := (ia_call 7 89 [.inr (.inr (.inl (some 184)))] ia_i2 185).getD (none, [], 0)
/-- the world as the law's loop finds it: 0 the class's object, 184 the reference's, 204 the row of one long -/
noncomputable def ia_s4 : ia_H := ia_set2 ia_r3.2.1 204 (51, 1, ia_rows 1 (.inr (.inl 0)))
