/-! numbers that the law pushes -/
theorem bip17 : (Int8.ofInt 17).toInt32 = nI 17 := by decide
theorem bip18 : (Int8.ofInt 18).toInt32 = nI 18 := by decide
theorem bip21 : (Int8.ofInt 21).toInt32 = nI 21 := by decide
theorem bip22 : (Int8.ofInt 22).toInt32 = nI 22 := by decide
theorem bip23 : (Int8.ofInt 23).toInt32 = nI 23 := by decide
theorem bip24 : (Int8.ofInt 24).toInt32 = nI 24 := by decide
theorem bip25 : (Int8.ofInt 25).toInt32 = nI 25 := by decide
theorem bip27 : (Int8.ofInt 27).toInt32 = nI 27 := by decide
theorem bip36 : (Int8.ofInt 36).toInt32 = nI 36 := by decide
theorem bip61 : (Int8.ofInt 61).toInt32 = nI 61 := by decide
theorem bip72 : (Int8.ofInt 72).toInt32 = nI 72 := by decide
theorem sip11831 : (Int16.ofInt 11831).toInt32 = nI 11831 := by decide
theorem sip201 : (Int16.ofInt 201).toInt32 = nI 201 := by decide
theorem sip5000 : (Int16.ofInt 5000).toInt32 = nI 5000 := by decide
theorem sip999 : (Int16.ofInt 999).toInt32 = nI 999 := by decide
