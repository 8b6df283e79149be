theorem fl10 (a0 a1 a2 a3 a4 a5 a6 a7 a8 a9 : va_W) : [a0, a1, a2, a3, a4, a5, a6, a7, a8, a9].flatten = a0 ++ (a1 ++ (a2 ++ (a3 ++ (a4 ++ (a5 ++ (a6 ++ (a7 ++ (a8 ++ (a9 ++ ([])))))))))) := by
  simp only [List.flatten_cons, List.flatten_nil]
theorem okP_0_1_2_3_4_5_6_8 : ([0, 1, 2, 3, 4, 5, 6, 8] ++ [7, 9]).isPerm (List.range 10) = true := by decide +kernel
theorem pkC_0_1_2_3_4_5_6_8 (a0 a1 a2 a3 a4 a5 a6 a7 a8 a9 : va_W) : pick [a0, a1, a2, a3, a4, a5, a6, a7, a8, a9] [0, 1, 2, 3, 4, 5, 6, 8] = a0 ++ (a1 ++ (a2 ++ (a3 ++ (a4 ++ (a5 ++ (a6 ++ (a8 ++ ([])))))))) := rfl
theorem pkR_0_1_2_3_4_5_6_8 (a0 a1 a2 a3 a4 a5 a6 a7 a8 a9 b0 b1 b2 b3 b4 b5 b6 b8 : va_W) : pick [b0, b1, b2, b3, b4, b5, b6, a7, b8, a9] [7, 9] = pick [a0, a1, a2, a3, a4, a5, a6, a7, a8, a9] [7, 9] := rfl
theorem okP_0_1_2_3_5_8 : ([0, 1, 2, 3, 5, 8] ++ [4, 6, 7, 9]).isPerm (List.range 10) = true := by decide +kernel
theorem pkC_0_1_2_3_5_8 (a0 a1 a2 a3 a4 a5 a6 a7 a8 a9 : va_W) : pick [a0, a1, a2, a3, a4, a5, a6, a7, a8, a9] [0, 1, 2, 3, 5, 8] = a0 ++ (a1 ++ (a2 ++ (a3 ++ (a5 ++ (a8 ++ ([])))))) := rfl
theorem pkR_0_1_2_3_5_8 (a0 a1 a2 a3 a4 a5 a6 a7 a8 a9 b0 b1 b2 b3 b5 b8 : va_W) : pick [b0, b1, b2, b3, a4, b5, a6, a7, b8, a9] [4, 6, 7, 9] = pick [a0, a1, a2, a3, a4, a5, a6, a7, a8, a9] [4, 6, 7, 9] := rfl
theorem okP_0_1_2_5_8 : ([0, 1, 2, 5, 8] ++ [3, 4, 6, 7, 9]).isPerm (List.range 10) = true := by decide +kernel
theorem pkC_0_1_2_5_8 (a0 a1 a2 a3 a4 a5 a6 a7 a8 a9 : va_W) : pick [a0, a1, a2, a3, a4, a5, a6, a7, a8, a9] [0, 1, 2, 5, 8] = a0 ++ (a1 ++ (a2 ++ (a5 ++ (a8 ++ ([]))))) := rfl
theorem pkR_0_1_2_5_8 (a0 a1 a2 a3 a4 a5 a6 a7 a8 a9 b0 b1 b2 b5 b8 : va_W) : pick [b0, b1, b2, a3, a4, b5, a6, a7, b8, a9] [3, 4, 6, 7, 9] = pick [a0, a1, a2, a3, a4, a5, a6, a7, a8, a9] [3, 4, 6, 7, 9] := rfl
theorem okP_0_1_5_8 : ([0, 1, 5, 8] ++ [2, 3, 4, 6, 7, 9]).isPerm (List.range 10) = true := by decide +kernel
theorem pkC_0_1_5_8 (a0 a1 a2 a3 a4 a5 a6 a7 a8 a9 : va_W) : pick [a0, a1, a2, a3, a4, a5, a6, a7, a8, a9] [0, 1, 5, 8] = a0 ++ (a1 ++ (a5 ++ (a8 ++ ([])))) := rfl
theorem pkR_0_1_5_8 (a0 a1 a2 a3 a4 a5 a6 a7 a8 a9 b0 b1 b5 b8 : va_W) : pick [b0, b1, a2, a3, a4, b5, a6, a7, b8, a9] [2, 3, 4, 6, 7, 9] = pick [a0, a1, a2, a3, a4, a5, a6, a7, a8, a9] [2, 3, 4, 6, 7, 9] := rfl
theorem okP_0_1_8 : ([0, 1, 8] ++ [2, 3, 4, 5, 6, 7, 9]).isPerm (List.range 10) = true := by decide +kernel
theorem pkC_0_1_8 (a0 a1 a2 a3 a4 a5 a6 a7 a8 a9 : va_W) : pick [a0, a1, a2, a3, a4, a5, a6, a7, a8, a9] [0, 1, 8] = a0 ++ (a1 ++ (a8 ++ ([]))) := rfl
theorem pkR_0_1_8 (a0 a1 a2 a3 a4 a5 a6 a7 a8 a9 b0 b1 b8 : va_W) : pick [b0, b1, a2, a3, a4, a5, a6, a7, b8, a9] [2, 3, 4, 5, 6, 7, 9] = pick [a0, a1, a2, a3, a4, a5, a6, a7, a8, a9] [2, 3, 4, 5, 6, 7, 9] := rfl
theorem okP_0_3_8 : ([0, 3, 8] ++ [1, 2, 4, 5, 6, 7, 9]).isPerm (List.range 10) = true := by decide +kernel
theorem pkC_0_3_8 (a0 a1 a2 a3 a4 a5 a6 a7 a8 a9 : va_W) : pick [a0, a1, a2, a3, a4, a5, a6, a7, a8, a9] [0, 3, 8] = a0 ++ (a3 ++ (a8 ++ ([]))) := rfl
theorem pkR_0_3_8 (a0 a1 a2 a3 a4 a5 a6 a7 a8 a9 b0 b3 b8 : va_W) : pick [b0, a1, a2, b3, a4, a5, a6, a7, b8, a9] [1, 2, 4, 5, 6, 7, 9] = pick [a0, a1, a2, a3, a4, a5, a6, a7, a8, a9] [1, 2, 4, 5, 6, 7, 9] := rfl
theorem okP_0_8 : ([0, 8] ++ [1, 2, 3, 4, 5, 6, 7, 9]).isPerm (List.range 10) = true := by decide +kernel
theorem pkC_0_8 (a0 a1 a2 a3 a4 a5 a6 a7 a8 a9 : va_W) : pick [a0, a1, a2, a3, a4, a5, a6, a7, a8, a9] [0, 8] = a0 ++ (a8 ++ ([])) := rfl
theorem pkR_0_8 (a0 a1 a2 a3 a4 a5 a6 a7 a8 a9 b0 b8 : va_W) : pick [b0, a1, a2, a3, a4, a5, a6, a7, b8, a9] [1, 2, 3, 4, 5, 6, 7, 9] = pick [a0, a1, a2, a3, a4, a5, a6, a7, a8, a9] [1, 2, 3, 4, 5, 6, 7, 9] := rfl
theorem okP_7 : ([7] ++ [0, 1, 2, 3, 4, 5, 6, 8, 9]).isPerm (List.range 10) = true := by decide +kernel
theorem pkC_7 (a0 a1 a2 a3 a4 a5 a6 a7 a8 a9 : va_W) : pick [a0, a1, a2, a3, a4, a5, a6, a7, a8, a9] [7] = a7 ++ ([]) := rfl
theorem pkR_7 (a0 a1 a2 a3 a4 a5 a6 a7 a8 a9 b7 : va_W) : pick [a0, a1, a2, a3, a4, a5, a6, b7, a8, a9] [0, 1, 2, 3, 4, 5, 6, 8, 9] = pick [a0, a1, a2, a3, a4, a5, a6, a7, a8, a9] [0, 1, 2, 3, 4, 5, 6, 8, 9] := rfl
