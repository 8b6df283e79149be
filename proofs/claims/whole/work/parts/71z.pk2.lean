theorem okP_0_1 : ([0, 1] ++ [2, 3, 4, 5, 6, 7, 8, 9]).isPerm (List.range 10) = true := by decide +kernel
theorem pkC_0_1 (a0 a1 a2 a3 a4 a5 a6 a7 a8 a9 : va_W) : pick [a0, a1, a2, a3, a4, a5, a6, a7, a8, a9] [0, 1] = a0 ++ (a1 ++ ([])) := rfl
theorem pkR_0_1 (a0 a1 a2 a3 a4 a5 a6 a7 a8 a9 b0 b1 : va_W) : pick [b0, b1, a2, a3, a4, a5, a6, a7, a8, a9] [2, 3, 4, 5, 6, 7, 8, 9] = pick [a0, a1, a2, a3, a4, a5, a6, a7, a8, a9] [2, 3, 4, 5, 6, 7, 8, 9] := rfl
theorem okP_0_1_5_9 : ([0, 1, 5, 9] ++ [2, 3, 4, 6, 7, 8]).isPerm (List.range 10) = true := by decide +kernel
theorem pkC_0_1_5_9 (a0 a1 a2 a3 a4 a5 a6 a7 a8 a9 : va_W) : pick [a0, a1, a2, a3, a4, a5, a6, a7, a8, a9] [0, 1, 5, 9] = a0 ++ (a1 ++ (a5 ++ (a9 ++ ([])))) := rfl
theorem pkR_0_1_5_9 (a0 a1 a2 a3 a4 a5 a6 a7 a8 a9 b0 b1 b5 b9 : va_W) : pick [b0, b1, a2, a3, a4, b5, a6, a7, a8, b9] [2, 3, 4, 6, 7, 8] = pick [a0, a1, a2, a3, a4, a5, a6, a7, a8, a9] [2, 3, 4, 6, 7, 8] := rfl
