set_option maxRecDepth 100000 in
theorem try_1 : ((ia_call 1 89 [.inr (.inr (.inl (some 0)))] (ia_set2 ia_w0 0 (12, (ia_Fs.getD 12 (0, [])))) 1).isSome) = true := by decide +kernel
