/-! THE COUPLING (3): the planner, over its whole world -/
theorem pmA_34_0 {e0 e1 e2 e3 e4 e5 e6 e7 e8 e9 e10 e11 e12 e13 e14 e15 e16 e17 e18 e19 e20 e21 e22 e23 e24 e25 e26 e27 e28 e29 e30 e31 e32 e33 : Nat × va_E} : ([e0, e1, e2, e3, e4, e5, e6, e7, e8, e9, e10, e11, e12, e13, e14, e15, e16, e17, e18, e19, e20, e21, e22, e23, e24, e25, e26, e27, e28, e29, e30, e31, e32, e33] : va_W).Perm ([e0, e28, e29] ++ [e1, e2, e3, e4, e5, e6, e7, e8, e9, e10, e11, e12, e13, e14, e15, e16, e17, e18, e19, e20, e21, e22, e23, e24, e25, e26, e27, e30, e31, e32, e33]) := pm_lit2 (l := [e0, e1, e2, e3, e4, e5, e6, e7, e8, e9, e10, e11, e12, e13, e14, e15, e16, e17, e18, e19, e20, e21, e22, e23, e24, e25, e26, e27, e28, e29, e30, e31, e32, e33]) (l' := [e0, e28, e29] ++ [e1, e2, e3, e4, e5, e6, e7, e8, e9, e10, e11, e12, e13, e14, e15, e16, e17, e18, e19, e20, e21, e22, e23, e24, e25, e26, e27, e30, e31, e32, e33]) [0, 28, 29, 1, 2, 3, 4, 5, 6, 7, 8, 9, 10, 11, 12, 13, 14, 15, 16, 17, 18, 19, 20, 21, 22, 23, 24, 25, 26, 27, 30, 31, 32, 33] 34 rfl rfl (by decide +kernel)
theorem pmA_34_1 {e0 e1 e2 e3 e4 e5 e6 e7 e8 e9 e10 e11 e12 e13 e14 e15 e16 e17 e18 e19 e20 e21 e22 e23 e24 e25 e26 e27 e28 e29 e30 e31 e32 e33 : Nat × va_E} : ([e0, e1, e2, e3, e4, e5, e6, e7, e8, e9, e10, e11, e12, e13, e14, e15, e16, e17, e18, e19, e20, e21, e22, e23, e24, e25, e26, e27, e28, e29, e30, e31, e32, e33] : va_W).Perm ([e0, e28, e33] ++ [e1, e2, e3, e4, e5, e6, e7, e8, e9, e10, e11, e12, e13, e14, e15, e16, e17, e18, e19, e20, e21, e22, e23, e24, e25, e26, e27, e29, e30, e31, e32]) := pm_lit2 (l := [e0, e1, e2, e3, e4, e5, e6, e7, e8, e9, e10, e11, e12, e13, e14, e15, e16, e17, e18, e19, e20, e21, e22, e23, e24, e25, e26, e27, e28, e29, e30, e31, e32, e33]) (l' := [e0, e28, e33] ++ [e1, e2, e3, e4, e5, e6, e7, e8, e9, e10, e11, e12, e13, e14, e15, e16, e17, e18, e19, e20, e21, e22, e23, e24, e25, e26, e27, e29, e30, e31, e32]) [0, 28, 33, 1, 2, 3, 4, 5, 6, 7, 8, 9, 10, 11, 12, 13, 14, 15, 16, 17, 18, 19, 20, 21, 22, 23, 24, 25, 26, 27, 29, 30, 31, 32] 34 rfl rfl (by decide +kernel)
theorem pmA_34_2 {e0 e1 e2 e3 e4 e5 e6 e7 e8 e9 e10 e11 e12 e13 e14 e15 e16 e17 e18 e19 e20 e21 e22 e23 e24 e25 e26 e27 e28 e29 e30 e31 e32 e33 : Nat × va_E} : ([e0, e1, e2, e3, e4, e5, e6, e7, e8, e9, e10, e11, e12, e13, e14, e15, e16, e17, e18, e19, e20, e21, e22, e23, e24, e25, e26, e27, e28, e29, e30, e31, e32, e33] : va_W).Perm ([e0, e1, e2, e3] ++ [e4, e5, e6, e7, e8, e9, e10, e11, e12, e13, e14, e15, e16, e17, e18, e19, e20, e21, e22, e23, e24, e25, e26, e27, e28, e29, e30, e31, e32, e33]) := pm_lit2 (l := [e0, e1, e2, e3, e4, e5, e6, e7, e8, e9, e10, e11, e12, e13, e14, e15, e16, e17, e18, e19, e20, e21, e22, e23, e24, e25, e26, e27, e28, e29, e30, e31, e32, e33]) (l' := [e0, e1, e2, e3] ++ [e4, e5, e6, e7, e8, e9, e10, e11, e12, e13, e14, e15, e16, e17, e18, e19, e20, e21, e22, e23, e24, e25, e26, e27, e28, e29, e30, e31, e32, e33]) [0, 1, 2, 3, 4, 5, 6, 7, 8, 9, 10, 11, 12, 13, 14, 15, 16, 17, 18, 19, 20, 21, 22, 23, 24, 25, 26, 27, 28, 29, 30, 31, 32, 33] 34 rfl rfl (by decide +kernel)
theorem pmA_34_3 {e0 e1 e2 e3 e4 e5 e6 e7 e8 e9 e10 e11 e12 e13 e14 e15 e16 e17 e18 e19 e20 e21 e22 e23 e24 e25 e26 e27 e28 e29 e30 e31 e32 e33 : Nat × va_E} : ([e0, e1, e2, e3, e4, e5, e6, e7, e8, e9, e10, e11, e12, e13, e14, e15, e16, e17, e18, e19, e20, e21, e22, e23, e24, e25, e26, e27, e28, e29, e30, e31, e32, e33] : va_W).Perm ([e0, e1, e2, e3, e28, e29, e30] ++ [e4, e5, e6, e7, e8, e9, e10, e11, e12, e13, e14, e15, e16, e17, e18, e19, e20, e21, e22, e23, e24, e25, e26, e27, e31, e32, e33]) := pm_lit2 (l := [e0, e1, e2, e3, e4, e5, e6, e7, e8, e9, e10, e11, e12, e13, e14, e15, e16, e17, e18, e19, e20, e21, e22, e23, e24, e25, e26, e27, e28, e29, e30, e31, e32, e33]) (l' := [e0, e1, e2, e3, e28, e29, e30] ++ [e4, e5, e6, e7, e8, e9, e10, e11, e12, e13, e14, e15, e16, e17, e18, e19, e20, e21, e22, e23, e24, e25, e26, e27, e31, e32, e33]) [0, 1, 2, 3, 28, 29, 30, 4, 5, 6, 7, 8, 9, 10, 11, 12, 13, 14, 15, 16, 17, 18, 19, 20, 21, 22, 23, 24, 25, 26, 27, 31, 32, 33] 34 rfl rfl (by decide +kernel)
theorem pmA_34_4 {e0 e1 e2 e3 e4 e5 e6 e7 e8 e9 e10 e11 e12 e13 e14 e15 e16 e17 e18 e19 e20 e21 e22 e23 e24 e25 e26 e27 e28 e29 e30 e31 e32 e33 : Nat × va_E} : ([e0, e1, e2, e3, e4, e5, e6, e7, e8, e9, e10, e11, e12, e13, e14, e15, e16, e17, e18, e19, e20, e21, e22, e23, e24, e25, e26, e27, e28, e29, e30, e31, e32, e33] : va_W).Perm ([e0, e21, e22, e23, e24, e25, e26, e27, e28, e29, e30, e1, e2, e3] ++ [e4, e5, e6, e7, e8, e9, e10, e11, e12, e13, e14, e15, e16, e17, e18, e19, e20, e31, e32, e33]) := pm_lit2 (l := [e0, e1, e2, e3, e4, e5, e6, e7, e8, e9, e10, e11, e12, e13, e14, e15, e16, e17, e18, e19, e20, e21, e22, e23, e24, e25, e26, e27, e28, e29, e30, e31, e32, e33]) (l' := [e0, e21, e22, e23, e24, e25, e26, e27, e28, e29, e30, e1, e2, e3] ++ [e4, e5, e6, e7, e8, e9, e10, e11, e12, e13, e14, e15, e16, e17, e18, e19, e20, e31, e32, e33]) [0, 21, 22, 23, 24, 25, 26, 27, 28, 29, 30, 1, 2, 3, 4, 5, 6, 7, 8, 9, 10, 11, 12, 13, 14, 15, 16, 17, 18, 19, 20, 31, 32, 33] 34 rfl rfl (by decide +kernel)
theorem pmA_34_5 {e0 e1 e2 e3 e4 e5 e6 e7 e8 e9 e10 e11 e12 e13 e14 e15 e16 e17 e18 e19 e20 e21 e22 e23 e24 e25 e26 e27 e28 e29 e30 e31 e32 e33 : Nat × va_E} : ([e0, e1, e2, e3, e4, e5, e6, e7, e8, e9, e10, e11, e12, e13, e14, e15, e16, e17, e18, e19, e20, e21, e22, e23, e24, e25, e26, e27, e28, e29, e30, e31, e32, e33] : va_W).Perm ([e0, e21, e22, e23, e24, e25, e26, e27, e28, e29, e30, e4, e5, e6, e1, e2, e3, e7, e8] ++ [e9, e10, e11, e12, e13, e14, e15, e16, e17, e18, e19, e20, e31, e32, e33]) := pm_lit2 (l := [e0, e1, e2, e3, e4, e5, e6, e7, e8, e9, e10, e11, e12, e13, e14, e15, e16, e17, e18, e19, e20, e21, e22, e23, e24, e25, e26, e27, e28, e29, e30, e31, e32, e33]) (l' := [e0, e21, e22, e23, e24, e25, e26, e27, e28, e29, e30, e4, e5, e6, e1, e2, e3, e7, e8] ++ [e9, e10, e11, e12, e13, e14, e15, e16, e17, e18, e19, e20, e31, e32, e33]) [0, 21, 22, 23, 24, 25, 26, 27, 28, 29, 30, 4, 5, 6, 1, 2, 3, 7, 8, 9, 10, 11, 12, 13, 14, 15, 16, 17, 18, 19, 20, 31, 32, 33] 34 rfl rfl (by decide +kernel)
theorem pmA_34_6 {e0 e1 e2 e3 e4 e5 e6 e7 e8 e9 e10 e11 e12 e13 e14 e15 e16 e17 e18 e19 e20 e21 e22 e23 e24 e25 e26 e27 e28 e29 e30 e31 e32 e33 : Nat × va_E} : ([e0, e1, e2, e3, e4, e5, e6, e7, e8, e9, e10, e11, e12, e13, e14, e15, e16, e17, e18, e19, e20, e21, e22, e23, e24, e25, e26, e27, e28, e29, e30, e31, e32, e33] : va_W).Perm ([e0, e21, e22, e23, e24, e25, e26, e27, e28, e29, e30, e31, e32, e1, e2, e3, e7, e8] ++ [e4, e5, e6, e9, e10, e11, e12, e13, e14, e15, e16, e17, e18, e19, e20, e33]) := pm_lit2 (l := [e0, e1, e2, e3, e4, e5, e6, e7, e8, e9, e10, e11, e12, e13, e14, e15, e16, e17, e18, e19, e20, e21, e22, e23, e24, e25, e26, e27, e28, e29, e30, e31, e32, e33]) (l' := [e0, e21, e22, e23, e24, e25, e26, e27, e28, e29, e30, e31, e32, e1, e2, e3, e7, e8] ++ [e4, e5, e6, e9, e10, e11, e12, e13, e14, e15, e16, e17, e18, e19, e20, e33]) [0, 21, 22, 23, 24, 25, 26, 27, 28, 29, 30, 31, 32, 1, 2, 3, 7, 8, 4, 5, 6, 9, 10, 11, 12, 13, 14, 15, 16, 17, 18, 19, 20, 33] 34 rfl rfl (by decide +kernel)
theorem pmA_34_7 {e0 e1 e2 e3 e4 e5 e6 e7 e8 e9 e10 e11 e12 e13 e14 e15 e16 e17 e18 e19 e20 e21 e22 e23 e24 e25 e26 e27 e28 e29 e30 e31 e32 e33 : Nat × va_E} : ([e0, e1, e2, e3, e4, e5, e6, e7, e8, e9, e10, e11, e12, e13, e14, e15, e16, e17, e18, e19, e20, e21, e22, e23, e24, e25, e26, e27, e28, e29, e30, e31, e32, e33] : va_W).Perm ([e0, e14, e15, e16, e17, e18, e19, e20, e21, e22, e23, e24, e25, e26, e27, e28, e29, e30, e31, e32, e1, e2, e3, e7, e8] ++ [e4, e5, e6, e9, e10, e11, e12, e13, e33]) := pm_lit2 (l := [e0, e1, e2, e3, e4, e5, e6, e7, e8, e9, e10, e11, e12, e13, e14, e15, e16, e17, e18, e19, e20, e21, e22, e23, e24, e25, e26, e27, e28, e29, e30, e31, e32, e33]) (l' := [e0, e14, e15, e16, e17, e18, e19, e20, e21, e22, e23, e24, e25, e26, e27, e28, e29, e30, e31, e32, e1, e2, e3, e7, e8] ++ [e4, e5, e6, e9, e10, e11, e12, e13, e33]) [0, 14, 15, 16, 17, 18, 19, 20, 21, 22, 23, 24, 25, 26, 27, 28, 29, 30, 31, 32, 1, 2, 3, 7, 8, 4, 5, 6, 9, 10, 11, 12, 13, 33] 34 rfl rfl (by decide +kernel)
theorem pmA_34_8 {e0 e1 e2 e3 e4 e5 e6 e7 e8 e9 e10 e11 e12 e13 e14 e15 e16 e17 e18 e19 e20 e21 e22 e23 e24 e25 e26 e27 e28 e29 e30 e31 e32 e33 : Nat × va_E} : ([e0, e1, e2, e3, e4, e5, e6, e7, e8, e9, e10, e11, e12, e13, e14, e15, e16, e17, e18, e19, e20, e21, e22, e23, e24, e25, e26, e27, e28, e29, e30, e31, e32, e33] : va_W).Perm ([e0, e1, e2, e3, e7, e8] ++ [e4, e5, e6, e9, e10, e11, e12, e13, e14, e15, e16, e17, e18, e19, e20, e21, e22, e23, e24, e25, e26, e27, e28, e29, e30, e31, e32, e33]) := pm_lit2 (l := [e0, e1, e2, e3, e4, e5, e6, e7, e8, e9, e10, e11, e12, e13, e14, e15, e16, e17, e18, e19, e20, e21, e22, e23, e24, e25, e26, e27, e28, e29, e30, e31, e32, e33]) (l' := [e0, e1, e2, e3, e7, e8] ++ [e4, e5, e6, e9, e10, e11, e12, e13, e14, e15, e16, e17, e18, e19, e20, e21, e22, e23, e24, e25, e26, e27, e28, e29, e30, e31, e32, e33]) [0, 1, 2, 3, 7, 8, 4, 5, 6, 9, 10, 11, 12, 13, 14, 15, 16, 17, 18, 19, 20, 21, 22, 23, 24, 25, 26, 27, 28, 29, 30, 31, 32, 33] 34 rfl rfl (by decide +kernel)
theorem pmA_34_9 {e0 e1 e2 e3 e4 e5 e6 e7 e8 e9 e10 e11 e12 e13 e14 e15 e16 e17 e18 e19 e20 e21 e22 e23 e24 e25 e26 e27 e28 e29 e30 e31 e32 e33 : Nat × va_E} : ([e0, e1, e2, e3, e4, e5, e6, e7, e8, e9, e10, e11, e12, e13, e14, e15, e16, e17, e18, e19, e20, e21, e22, e23, e24, e25, e26, e27, e28, e29, e30, e31, e32, e33] : va_W).Perm ([e0, e21, e22, e23, e24, e25, e26, e27, e28, e29, e30, e1, e2, e3, e7, e8] ++ [e4, e5, e6, e9, e10, e11, e12, e13, e14, e15, e16, e17, e18, e19, e20, e31, e32, e33]) := pm_lit2 (l := [e0, e1, e2, e3, e4, e5, e6, e7, e8, e9, e10, e11, e12, e13, e14, e15, e16, e17, e18, e19, e20, e21, e22, e23, e24, e25, e26, e27, e28, e29, e30, e31, e32, e33]) (l' := [e0, e21, e22, e23, e24, e25, e26, e27, e28, e29, e30, e1, e2, e3, e7, e8] ++ [e4, e5, e6, e9, e10, e11, e12, e13, e14, e15, e16, e17, e18, e19, e20, e31, e32, e33]) [0, 21, 22, 23, 24, 25, 26, 27, 28, 29, 30, 1, 2, 3, 7, 8, 4, 5, 6, 9, 10, 11, 12, 13, 14, 15, 16, 17, 18, 19, 20, 31, 32, 33] 34 rfl rfl (by decide +kernel)
theorem pmA_34_10 {e0 e1 e2 e3 e4 e5 e6 e7 e8 e9 e10 e11 e12 e13 e14 e15 e16 e17 e18 e19 e20 e21 e22 e23 e24 e25 e26 e27 e28 e29 e30 e31 e32 e33 : Nat × va_E} : ([e0, e1, e2, e3, e4, e5, e6, e7, e8, e9, e10, e11, e12, e13, e14, e15, e16, e17, e18, e19, e20, e21, e22, e23, e24, e25, e26, e27, e28, e29, e30, e31, e32, e33] : va_W).Perm ([e0, e14, e15, e16, e17, e18, e19, e20, e21, e22, e23, e24, e25, e26, e27, e28, e29, e30, e31, e32, e1, e2, e3] ++ [e4, e5, e6, e7, e8, e9, e10, e11, e12, e13, e33]) := pm_lit2 (l := [e0, e1, e2, e3, e4, e5, e6, e7, e8, e9, e10, e11, e12, e13, e14, e15, e16, e17, e18, e19, e20, e21, e22, e23, e24, e25, e26, e27, e28, e29, e30, e31, e32, e33]) (l' := [e0, e14, e15, e16, e17, e18, e19, e20, e21, e22, e23, e24, e25, e26, e27, e28, e29, e30, e31, e32, e1, e2, e3] ++ [e4, e5, e6, e7, e8, e9, e10, e11, e12, e13, e33]) [0, 14, 15, 16, 17, 18, 19, 20, 21, 22, 23, 24, 25, 26, 27, 28, 29, 30, 31, 32, 1, 2, 3, 4, 5, 6, 7, 8, 9, 10, 11, 12, 13, 33] 34 rfl rfl (by decide +kernel)
theorem pmA_34_11 {e0 e1 e2 e3 e4 e5 e6 e7 e8 e9 e10 e11 e12 e13 e14 e15 e16 e17 e18 e19 e20 e21 e22 e23 e24 e25 e26 e27 e28 e29 e30 e31 e32 e33 : Nat × va_E} : ([e0, e1, e2, e3, e4, e5, e6, e7, e8, e9, e10, e11, e12, e13, e14, e15, e16, e17, e18, e19, e20, e21, e22, e23, e24, e25, e26, e27, e28, e29, e30, e31, e32, e33] : va_W).Perm ([e0, e10, e11, e12, e13, e14, e15, e16, e17, e18, e19, e20, e21, e22, e23, e24, e25, e26, e27, e28, e29, e30, e31, e32, e1, e2, e3] ++ [e4, e5, e6, e7, e8, e9, e33]) := pm_lit2 (l := [e0, e1, e2, e3, e4, e5, e6, e7, e8, e9, e10, e11, e12, e13, e14, e15, e16, e17, e18, e19, e20, e21, e22, e23, e24, e25, e26, e27, e28, e29, e30, e31, e32, e33]) (l' := [e0, e10, e11, e12, e13, e14, e15, e16, e17, e18, e19, e20, e21, e22, e23, e24, e25, e26, e27, e28, e29, e30, e31, e32, e1, e2, e3] ++ [e4, e5, e6, e7, e8, e9, e33]) [0, 10, 11, 12, 13, 14, 15, 16, 17, 18, 19, 20, 21, 22, 23, 24, 25, 26, 27, 28, 29, 30, 31, 32, 1, 2, 3, 4, 5, 6, 7, 8, 9, 33] 34 rfl rfl (by decide +kernel)
theorem pmA_34_12 {e0 e1 e2 e3 e4 e5 e6 e7 e8 e9 e10 e11 e12 e13 e14 e15 e16 e17 e18 e19 e20 e21 e22 e23 e24 e25 e26 e27 e28 e29 e30 e31 e32 e33 : Nat × va_E} : ([e0, e1, e2, e3, e4, e5, e6, e7, e8, e9, e10, e11, e12, e13, e14, e15, e16, e17, e18, e19, e20, e21, e22, e23, e24, e25, e26, e27, e28, e29, e30, e31, e32, e33] : va_W).Perm ([e0, e21, e22, e23, e24, e25, e26, e27, e28, e29, e30, e1, e2, e3, e33] ++ [e4, e5, e6, e7, e8, e9, e10, e11, e12, e13, e14, e15, e16, e17, e18, e19, e20, e31, e32]) := pm_lit2 (l := [e0, e1, e2, e3, e4, e5, e6, e7, e8, e9, e10, e11, e12, e13, e14, e15, e16, e17, e18, e19, e20, e21, e22, e23, e24, e25, e26, e27, e28, e29, e30, e31, e32, e33]) (l' := [e0, e21, e22, e23, e24, e25, e26, e27, e28, e29, e30, e1, e2, e3, e33] ++ [e4, e5, e6, e7, e8, e9, e10, e11, e12, e13, e14, e15, e16, e17, e18, e19, e20, e31, e32]) [0, 21, 22, 23, 24, 25, 26, 27, 28, 29, 30, 1, 2, 3, 33, 4, 5, 6, 7, 8, 9, 10, 11, 12, 13, 14, 15, 16, 17, 18, 19, 20, 31, 32] 34 rfl rfl (by decide +kernel)
set_option maxHeartbeats 4000000 in
theorem k_X7_coordinate (l : Launch) (T : jj_T) (hlS : l.stackTraces = false) {h7 : Nat} {ac ap : Nat} {ash : Bool} {an : Nat} {aob arq : Nat → Int32} {cn : Nat} {M : Nat → aS} {S : Nat → Option aS} {w : va_W} (x : Int32) (y : Int32) (W0 : PW T h7 ((ac, ap, ash, an, aob, arq), cn, M, S) w) (O : okS ((ac, ap, ash, an, aob, arq), cn, M, S)) : jX l T yX7_coordinate wsX7_coordinate { frames := 7, cells := 2, slots := 12, locals := 102 } [.ref h7, .int x, .int y] w (fun v w1 => kf_coordinate ac ap ash an aob arq cn M S x y = 0 ∧ ∃ r : Int32, v = some (.int r) ∧ rs_coordinate ac ap ash an aob arq cn M S x y r ∧ PW T h7 (nx_coordinate ac ap ash an aob arq cn M S x y r) w1) (fun Ex w1 => ∃ i : Nat, [jE1][i]? = some Ex ∧ kf_coordinate ac ap ash an aob arq cn M S x y = i + 1 ∧ PW T h7 ((ac, ap, ash, an, aob, arq), cn, M, S) w1) := by
  refine PW.ex W0 fun hS a0 ao ar d0 d1 d2 h1 hst hsl h2 ga go gr h3 he hew hy hyw hc hcw h4 hs so sr hl hlw hdr hh hhw hv hq ha ol dc dp dn ck gp gn mk p t0 sc sp st ds gs ss bs bd ax ay az lim dob drq gob grq sob srq E Y Ch LW hd dr sf slf P Q hw hmI hqI hsk hhd => ?_
  obtain ⟨⟨oc, op, on, orq, oco, oob⟩, oM, oS⟩ := okS.of O
  refine jX.frame (c_X7_coordinate l T (hlS := hlS) (h7 := h7) (hS := hS) (d0 := d0) (h1 := h1) (hsl := hsl) (h4 := h4) (h3 := h3) (h2 := h2) (a0 := a0) (hh := hh) (hv := hv) (hq := hq) (ha := ha) (x := x) (y := y)) (pw_q hw pmA_34_0) (fun v w1 h => ?_) (fun Ex w1 h => ?_)
  · obtain ⟨c, k, rfl, rfl, ⟨g1, g2, g3, g4⟩⟩ := h
    have e_x : xN x = c := xN_e g1 (by omega)
    have e_y : xN y = k := xN_e g2 (by omega)
    have i_x : inR x 0 149 = true := xRn g1 (by omega) (by omega) (by omega)
    have i_y : inR y 0 2 = true := xRn g2 (by omega) (by omega) (by omega)
    refine ⟨by simp [kf_coordinate, i_x, i_y, e_x, e_y, g3, g4], _, rfl, by unfold rs_coordinate; rw [e_x, e_y], ?_⟩
    show PW T h7 ((ac, ap, ash, an, aob, arq), cn, M, S) _
    exact PW.mk (pw_qb pmA_34_0.symm) hmI hqI hsk hhd
  · obtain ⟨rfl, hd9⟩ := h
    refine ex3 (PW.mk (pw_qb pmA_34_0.symm) hmI hqI hsk hhd) ?_
    rcases hd9 with ⟨rfl, g5⟩ | ⟨rfl, g6, g7⟩
    · exact ⟨0, rfl, by simp [kf_coordinate, g5]⟩
    · exact ⟨0, rfl, by simp [kf_coordinate, g6, g7]⟩
set_option maxHeartbeats 4000000 in
theorem k_X7_neighbour (l : Launch) (T : jj_T) (hlS : l.stackTraces = false) {h7 : Nat} {ac ap : Nat} {ash : Bool} {an : Nat} {aob arq : Nat → Int32} {cn : Nat} {M : Nat → aS} {S : Nat → Option aS} {w : va_W} (x : Int32) (y : Int32) (W0 : PW T h7 ((ac, ap, ash, an, aob, arq), cn, M, S) w) (O : okS ((ac, ap, ash, an, aob, arq), cn, M, S)) : jX l T yX7_neighbour wsX7_neighbour { frames := 7, cells := 2, slots := 12, locals := 104 } [.ref h7, .int x, .int y] w (fun v w1 => kf_neighbour ac ap ash an aob arq cn M S x y = 0 ∧ ∃ r : Int32, v = some (.int r) ∧ rs_neighbour ac ap ash an aob arq cn M S x y r ∧ PW T h7 (nx_neighbour ac ap ash an aob arq cn M S x y r) w1) (fun Ex w1 => ∃ i : Nat, [jE1, jE2][i]? = some Ex ∧ kf_neighbour ac ap ash an aob arq cn M S x y = i + 1 ∧ PW T h7 ((ac, ap, ash, an, aob, arq), cn, M, S) w1) := by
  refine PW.ex W0 fun hS a0 ao ar d0 d1 d2 h1 hst hsl h2 ga go gr h3 he hew hy hyw hc hcw h4 hs so sr hl hlw hdr hh hhw hv hq ha ol dc dp dn ck gp gn mk p t0 sc sp st ds gs ss bs bd ax ay az lim dob drq gob grq sob srq E Y Ch LW hd dr sf slf P Q hw hmI hqI hsk hhd => ?_
  obtain ⟨⟨oc, op, on, orq, oco, oob⟩, oM, oS⟩ := okS.of O
  refine jX.frame (c_X7_neighbour l T (hlS := hlS) (h7 := h7) (hS := hS) (d0 := d0) (h1 := h1) (hsl := hsl) (h4 := h4) (h3 := h3) (h2 := h2) (a0 := a0) (hh := hh) (hv := hv) (hq := hq) (ha := ha) (x := x) (y := y)) (pw_q hw pmA_34_1) (fun v w1 h => ?_) (fun Ex w1 h => ?_)
  · obtain ⟨c, k, rfl, rfl, ⟨g1, g2, g3, g4⟩⟩ := h
    have e_x : xN x = c := xN_e g1 (by omega)
    have e_y : xN y = k := xN_e g2 (by omega)
    have i_x : inR x 0 149 = true := xRn g1 (by omega) (by omega) (by omega)
    have i_y : inR y 0 3 = true := xRn g2 (by omega) (by omega) (by omega)
    refine ⟨by simp [kf_neighbour, i_x, i_y, e_x, e_y, g3, g4], _, rfl, by unfold rs_neighbour; rw [e_x, e_y], ?_⟩
    show PW T h7 ((ac, ap, ash, an, aob, arq), cn, M, S) _
    exact PW.mk (pw_qb pmA_34_1.symm) hmI hqI hsk hhd
  · obtain ⟨rfl, hd9⟩ := h
    refine ex3 (PW.mk (pw_qb pmA_34_1.symm) hmI hqI hsk hhd) ?_
    rcases hd9 with ⟨rfl, g5⟩ | ⟨rfl, g6, g7⟩
    · exact ⟨0, rfl, by simp [kf_neighbour, g5]⟩
    · exact ⟨1, rfl, by simp [kf_neighbour, g6, g7]⟩
set_option maxHeartbeats 4000000 in
theorem k_X7_direction (l : Launch) (T : jj_T) (hlS : l.stackTraces = false) {h7 : Nat} {ac ap : Nat} {ash : Bool} {an : Nat} {aob arq : Nat → Int32} {cn : Nat} {M : Nat → aS} {S : Nat → Option aS} {w : va_W} (x : Int32) (y : Int32) (z : Int32) (W0 : PW T h7 ((ac, ap, ash, an, aob, arq), cn, M, S) w) (O : okS ((ac, ap, ash, an, aob, arq), cn, M, S)) : jX l T yX7_direction wsX7_direction { frames := 8, cells := 3, slots := 18, locals := 124 } [.ref h7, .int x, .int y, .int z] w (fun v w1 => kf_direction ac ap ash an aob arq cn M S x y z = 0 ∧ ∃ r : Int32, v = some (.int r) ∧ rs_direction ac ap ash an aob arq cn M S x y z r ∧ PW T h7 (nx_direction ac ap ash an aob arq cn M S x y z r) w1) (fun Ex w1 => ∃ i : Nat, [jE1, jE2][i]? = some Ex ∧ kf_direction ac ap ash an aob arq cn M S x y z = i + 1 ∧ PW T h7 ((ac, ap, ash, an, aob, arq), cn, M, S) w1) := by
  refine PW.ex W0 fun hS a0 ao ar d0 d1 d2 h1 hst hsl h2 ga go gr h3 he hew hy hyw hc hcw h4 hs so sr hl hlw hdr hh hhw hv hq ha ol dc dp dn ck gp gn mk p t0 sc sp st ds gs ss bs bd ax ay az lim dob drq gob grq sob srq E Y Ch LW hd dr sf slf P Q hw hmI hqI hsk hhd => ?_
  obtain ⟨⟨oc, op, on, orq, oco, oob⟩, oM, oS⟩ := okS.of O
  refine jX.frame (c_X7_direction l T (hlS := hlS) (h7 := h7) (hS := hS) (d0 := d0) (h1 := h1) (hsl := hsl) (h4 := h4) (h3 := h3) (h2 := h2) (a0 := a0) (ao := ao) (ar := ar) (ac := ac) (ap := ap) (an := an) (ash := ash) (aob := aob) (arq := arq) (x := x) (y := y) (z := z)) (pw_q hw pmA_34_2) (fun v w1 h => ?_) (fun Ex w1 h => ?_)
  · obtain ⟨o, k, tm, rfl, rfl, ⟨g1, g2, g3, g4, g5, g6⟩⟩ := h
    have e_x : xN x = o := xN_e g1 (by omega)
    have e_y : xN y = k := xN_e g2 (by omega)
    have e_z : xN z = tm := xN_e g3 (by omega)
    have i_x : inR x 0 2 = true := xRn g1 (by omega) (by omega) (by omega)
    have i_y : inR y 0 2 = true := xRn g2 (by omega) (by omega) (by omega)
    have i_z : inR z 0 300 = true := xRn g3 (by omega) (by omega) (by omega)
    refine ⟨by simp [kf_direction, i_x, i_y, i_z, e_x, e_y, e_z, g4, g5, g6], _, rfl, by unfold rs_direction; rw [e_x, e_y, e_z], ?_⟩
    show PW T h7 ((ac, ap, ash, an, aob, arq), cn, M, S) _
    exact PW.mk (pw_qb pmA_34_2.symm) hmI hqI hsk hhd
  · obtain ⟨rfl, hd9⟩ := h
    refine ex3 (PW.mk (pw_qb pmA_34_2.symm) hmI hqI hsk hhd) ?_
    rcases hd9 with ⟨rfl, g7⟩ | ⟨rfl, g8, g9⟩ | ⟨rfl, g10, g11, g12⟩
    · exact ⟨0, rfl, by simp [kf_direction, g7]⟩
    · exact ⟨0, rfl, by simp [kf_direction, g8, g9]⟩
    · exact ⟨1, rfl, by simp [kf_direction, g10, g11, g12]⟩
set_option maxHeartbeats 4000000 in
theorem k_X7_cone (l : Launch) (T : jj_T) (hlS : l.stackTraces = false) {h7 : Nat} {ac ap : Nat} {ash : Bool} {an : Nat} {aob arq : Nat → Int32} {cn : Nat} {M : Nat → aS} {S : Nat → Option aS} {w : va_W} (x : Int32) (W0 : PW T h7 ((ac, ap, ash, an, aob, arq), cn, M, S) w) (O : okS ((ac, ap, ash, an, aob, arq), cn, M, S)) : jX l T yX7_cone wsX7_cone { frames := 7, cells := 1, slots := 6, locals := 102 } [.ref h7, .int x] w (fun v w1 => kf_cone ac ap ash an aob arq cn M S x = 0 ∧ ∃ r : Int32, v = some (.int r) ∧ rs_cone ac ap ash an aob arq cn M S x r ∧ PW T h7 (nx_cone ac ap ash an aob arq cn M S x r) w1) (fun Ex w1 => ∃ i : Nat, [jE1][i]? = some Ex ∧ kf_cone ac ap ash an aob arq cn M S x = i + 1 ∧ PW T h7 ((ac, ap, ash, an, aob, arq), cn, M, S) w1) := by
  refine PW.ex W0 fun hS a0 ao ar d0 d1 d2 h1 hst hsl h2 ga go gr h3 he hew hy hyw hc hcw h4 hs so sr hl hlw hdr hh hhw hv hq ha ol dc dp dn ck gp gn mk p t0 sc sp st ds gs ss bs bd ax ay az lim dob drq gob grq sob srq E Y Ch LW hd dr sf slf P Q hw hmI hqI hsk hhd => ?_
  obtain ⟨⟨oc, op, on, orq, oco, oob⟩, oM, oS⟩ := okS.of O
  refine jX.frame (c_X7_cone l T (hlS := hlS) (h7 := h7) (hS := hS) (d0 := d0) (h1 := h1) (hsl := hsl) (h4 := h4) (h3 := h3) (h2 := h2) (a0 := a0) (ao := ao) (ar := ar) (ac := ac) (ap := ap) (an := an) (ash := ash) (aob := aob) (arq := arq) (x := x)) (pw_q hw pmA_34_2) (fun v w1 h => ?_) (fun Ex w1 h => ?_)
  · obtain ⟨o, rfl, rfl, ⟨g1, g2⟩⟩ := h
    have e_x : xN x = o := xN_e g1 (by omega)
    have i_x : inR x 0 2 = true := xRn g1 (by omega) (by omega) (by omega)
    refine ⟨by simp [kf_cone, i_x, e_x, g2], _, rfl, by unfold rs_cone; rw [e_x], ?_⟩
    show PW T h7 ((ac, ap, ash, an, aob, arq), cn, M, S) _
    exact PW.mk (pw_qb pmA_34_2.symm) hmI hqI hsk hhd
  · obtain ⟨rfl, hd9⟩ := h
    refine ex3 (PW.mk (pw_qb pmA_34_2.symm) hmI hqI hsk hhd) ?_
    obtain ⟨rfl, g3⟩ := hd9
    exact ⟨0, rfl, by simp [kf_cone, g3]⟩
set_option maxHeartbeats 4000000 in
theorem k_X7_cosine (l : Launch) (T : jj_T) (hlS : l.stackTraces = false) {h7 : Nat} {ac ap : Nat} {ash : Bool} {an : Nat} {aob arq : Nat → Int32} {cn : Nat} {M : Nat → aS} {S : Nat → Option aS} {w : va_W} (x : Int32) (y : Int32) (z : Int32) (W0 : PW T h7 ((ac, ap, ash, an, aob, arq), cn, M, S) w) (O : okS ((ac, ap, ash, an, aob, arq), cn, M, S)) : jX l T yX7_cosine wsX7_cosine { frames := 8, cells := 3, slots := 18, locals := 124 } [.ref h7, .int x, .int y, .int z] w (fun v w1 => kf_cosine ac ap ash an aob arq cn M S x y z = 0 ∧ ∃ r : UInt64, v = some (.double r) ∧ rs_cosine ac ap ash an aob arq cn M S x y z r ∧ PW T h7 (nx_cosine ac ap ash an aob arq cn M S x y z r) w1) (fun Ex w1 => ∃ i : Nat, [jE1, jE2][i]? = some Ex ∧ kf_cosine ac ap ash an aob arq cn M S x y z = i + 1 ∧ PW T h7 ((ac, ap, ash, an, aob, arq), cn, M, S) w1) := by
  refine PW.ex W0 fun hS a0 ao ar d0 d1 d2 h1 hst hsl h2 ga go gr h3 he hew hy hyw hc hcw h4 hs so sr hl hlw hdr hh hhw hv hq ha ol dc dp dn ck gp gn mk p t0 sc sp st ds gs ss bs bd ax ay az lim dob drq gob grq sob srq E Y Ch LW hd dr sf slf P Q hw hmI hqI hsk hhd => ?_
  obtain ⟨⟨oc, op, on, orq, oco, oob⟩, oM, oS⟩ := okS.of O
  refine jX.frame (c_X7_cosine l T (hlS := hlS) (h7 := h7) (hS := hS) (d0 := d0) (h1 := h1) (hsl := hsl) (h4 := h4) (h3 := h3) (h2 := h2) (hh := hh) (hv := hv) (hq := hq) (ha := ha) (a0 := a0) (ao := ao) (ar := ar) (ac := ac) (ap := ap) (an := an) (ash := ash) (aob := aob) (arq := arq) (x := x) (y := y) (z := z) (hob := oob)) (pw_q hw pmA_34_3) (fun v w1 h => ?_) (fun Ex w1 h => ?_)
  · obtain ⟨c, o, tm, rfl, rfl, ⟨g1, g2, g3, g4, g5, g6⟩⟩ := h
    have e_x : xN x = c := xN_e g1 (by omega)
    have e_y : xN y = o := xN_e g2 (by omega)
    have e_z : xN z = tm := xN_e g3 (by omega)
    have i_x : inR x 0 149 = true := xRn g1 (by omega) (by omega) (by omega)
    have i_y : inR y 0 2 = true := xRn g2 (by omega) (by omega) (by omega)
    have i_z : inR z 0 300 = true := xRn g3 (by omega) (by omega) (by omega)
    refine ⟨by simp [kf_cosine, i_x, i_y, i_z, e_x, e_y, e_z, g4, g5, g6], _, rfl, by unfold rs_cosine; rw [e_x, e_y, e_z], ?_⟩
    show PW T h7 ((ac, ap, ash, an, aob, arq), cn, M, S) _
    exact PW.mk (pw_qb pmA_34_3.symm) hmI hqI hsk hhd
  · obtain ⟨rfl, hd9⟩ := h
    refine ex3 (PW.mk (pw_qb pmA_34_3.symm) hmI hqI hsk hhd) ?_
    rcases hd9 with ⟨rfl, g7⟩ | ⟨rfl, g8, g9⟩ | ⟨rfl, g10, g11, g12⟩
    · exact ⟨0, rfl, by simp [kf_cosine, g7]⟩
    · exact ⟨0, rfl, by simp [kf_cosine, g8, g9]⟩
    · exact ⟨1, rfl, by simp [kf_cosine, g10, g11, g12]⟩
set_option maxHeartbeats 4000000 in
theorem k_X7_isBright (l : Launch) (T : jj_T) (hlS : l.stackTraces = false) {h7 : Nat} {ac ap : Nat} {ash : Bool} {an : Nat} {aob arq : Nat → Int32} {cn : Nat} {M : Nat → aS} {S : Nat → Option aS} {w : va_W} (x : Int32) (y : Int32) (W0 : PW T h7 ((ac, ap, ash, an, aob, arq), cn, M, S) w) (O : okS ((ac, ap, ash, an, aob, arq), cn, M, S)) : jX l T yX7_isBright wsX7_isBright { frames := 8, cells := 2, slots := 12, locals := 124 } [.ref h7, .int x, .int y] w (fun v w1 => kf_isBright ac ap ash an aob arq cn M S x y = 0 ∧ ∃ r : Int32, v = some (.int r) ∧ rs_isBright ac ap ash an aob arq cn M S x y r ∧ PW T h7 (nx_isBright ac ap ash an aob arq cn M S x y r) w1) (fun Ex w1 => ∃ i : Nat, [jE1, jE2][i]? = some Ex ∧ kf_isBright ac ap ash an aob arq cn M S x y = i + 1 ∧ PW T h7 ((ac, ap, ash, an, aob, arq), cn, M, S) w1) := by
  refine PW.ex W0 fun hS a0 ao ar d0 d1 d2 h1 hst hsl h2 ga go gr h3 he hew hy hyw hc hcw h4 hs so sr hl hlw hdr hh hhw hv hq ha ol dc dp dn ck gp gn mk p t0 sc sp st ds gs ss bs bd ax ay az lim dob drq gob grq sob srq E Y Ch LW hd dr sf slf P Q hw hmI hqI hsk hhd => ?_
  obtain ⟨⟨oc, op, on, orq, oco, oob⟩, oM, oS⟩ := okS.of O
  refine jX.frame (c_X7_isBright l T (hlS := hlS) (h7 := h7) (d0 := d0) (h1 := h1) (hsl := hsl) (h3 := h3) (h2 := h2) (h4 := h4) (hS := hS) (hs := hs) (so := so) (sr := sr) (hl := hl) (hlw := hlw) (hdr := hdr) (hh := hh) (hv := hv) (hq := hq) (ha := ha) (sc := sc) (sp := sp) (st := st) (ss := ss) (ob := sob) (rq := srq) (ax := ax) (ay := ay) (az := az) (lim := lim) (LW := LW) (dr := dr) (a0 := a0) (ao := ao) (ar := ar) (ac := ac) (ap := ap) (an := an) (ash := ash) (aob := aob) (arq := arq) (x := x) (y := y) (hI := hsk)) (pw_q hw pmA_34_4) (fun v w1 h => ?_) (fun Ex w1 h => ?_)
  · obtain ⟨c, tm, ax', ay', az', lim', dr', rfl, rfl, ⟨g1, g2, g3, g4⟩, k5⟩ := h
    have e_x : xN x = c := xN_e g1 (by omega)
    have e_y : xN y = tm := xN_e g2 (by omega)
    have i_x : inR x 0 149 = true := xRn g1 (by omega) (by omega) (by omega)
    have i_y : inR y 0 300 = true := xRn g2 (by omega) (by omega) (by omega)
    refine ⟨by simp [kf_isBright, i_x, i_y, e_x, e_y, g3, g4], _, rfl, by unfold rs_isBright; rw [e_x, e_y], ?_⟩
    show PW T h7 ((ac, ap, ash, an, aob, arq), cn, M, S) _
    exact PW.mk (pw_qb pmA_34_4.symm) hmI hqI k5 hhd
  · obtain ⟨rfl, hd9⟩ := h
    refine ex3 (PW.mk (pw_qb pmA_34_4.symm) hmI hqI hsk hhd) ?_
    rcases hd9 with ⟨rfl, g6⟩ | ⟨rfl, g7, g8⟩
    · exact ⟨0, rfl, by simp [kf_isBright, g6]⟩
    · exact ⟨1, rfl, by simp [kf_isBright, g7, g8]⟩
set_option maxHeartbeats 4000000 in
theorem k_X7_brightCells (l : Launch) (T : jj_T) (hlS : l.stackTraces = false) {h7 : Nat} {ac ap : Nat} {ash : Bool} {an : Nat} {aob arq : Nat → Int32} {cn : Nat} {M : Nat → aS} {S : Nat → Option aS} {w : va_W} (x : Int32) (W0 : PW T h7 ((ac, ap, ash, an, aob, arq), cn, M, S) w) (O : okS ((ac, ap, ash, an, aob, arq), cn, M, S)) : jX l T yX7_brightCells wsX7_brightCells { frames := 8, cells := 1, slots := 6, locals := 124 } [.ref h7, .int x] w (fun v w1 => kf_brightCells ac ap ash an aob arq cn M S x = 0 ∧ ∃ r : Int32, v = some (.int r) ∧ rs_brightCells ac ap ash an aob arq cn M S x r ∧ PW T h7 (nx_brightCells ac ap ash an aob arq cn M S x r) w1) (fun Ex w1 => ∃ i : Nat, [jE2][i]? = some Ex ∧ kf_brightCells ac ap ash an aob arq cn M S x = i + 1 ∧ PW T h7 ((ac, ap, ash, an, aob, arq), cn, M, S) w1) := by
  refine PW.ex W0 fun hS a0 ao ar d0 d1 d2 h1 hst hsl h2 ga go gr h3 he hew hy hyw hc hcw h4 hs so sr hl hlw hdr hh hhw hv hq ha ol dc dp dn ck gp gn mk p t0 sc sp st ds gs ss bs bd ax ay az lim dob drq gob grq sob srq E Y Ch LW hd dr sf slf P Q hw hmI hqI hsk hhd => ?_
  obtain ⟨⟨oc, op, on, orq, oco, oob⟩, oM, oS⟩ := okS.of O
  refine jX.frame (c_X7_brightCells l T (hlS := hlS) (h7 := h7) (d0 := d0) (h1 := h1) (hsl := hsl) (h3 := h3) (h2 := h2) (h4 := h4) (hS := hS) (hs := hs) (so := so) (sr := sr) (hl := hl) (hlw := hlw) (hdr := hdr) (hh := hh) (hv := hv) (hq := hq) (ha := ha) (sc := sc) (sp := sp) (st := st) (ss := ss) (ob := sob) (rq := srq) (ax := ax) (ay := ay) (az := az) (lim := lim) (LW := LW) (dr := dr) (a0 := a0) (ao := ao) (ar := ar) (ac := ac) (ap := ap) (an := an) (ash := ash) (aob := aob) (arq := arq) (x := x) (hI := hsk)) (pw_q hw pmA_34_4) (fun v w1 h => ?_) (fun Ex w1 h => ?_)
  · obtain ⟨tm, ax', ay', az', lim', LW', dr', rfl, rfl, ⟨g1, g2⟩, k3⟩ := h
    have e_x : xN x = tm := xN_e g1 (by omega)
    have i_x : inR x 0 300 = true := xRn g1 (by omega) (by omega) (by omega)
    refine ⟨by simp [kf_brightCells, i_x, e_x, g2], _, rfl, by unfold rs_brightCells; rw [e_x], ?_⟩
    show PW T h7 ((ac, ap, ash, an, aob, arq), cn, M, S) _
    exact PW.mk (pw_qb pmA_34_4.symm) hmI hqI k3 hhd
  · obtain ⟨rfl, hd9⟩ := h
    refine ex3 (PW.mk (pw_qb pmA_34_4.symm) hmI hqI hsk hhd) ?_
    obtain ⟨rfl, g4⟩ := hd9
    exact ⟨0, rfl, by simp [kf_brightCells, g4]⟩
set_option maxHeartbeats 4000000 in
theorem k_X7_firstBright (l : Launch) (T : jj_T) (hlS : l.stackTraces = false) {h7 : Nat} {ac ap : Nat} {ash : Bool} {an : Nat} {aob arq : Nat → Int32} {cn : Nat} {M : Nat → aS} {S : Nat → Option aS} {w : va_W} (x : Int32) (y : Int32) (W0 : PW T h7 ((ac, ap, ash, an, aob, arq), cn, M, S) w) (O : okS ((ac, ap, ash, an, aob, arq), cn, M, S)) : jX l T yX7_firstBright wsX7_firstBright { frames := 8, cells := 2, slots := 12, locals := 124 } [.ref h7, .int x, .int y] w (fun v w1 => kf_firstBright ac ap ash an aob arq cn M S x y = 0 ∧ ∃ r : Int32, v = some (.int r) ∧ rs_firstBright ac ap ash an aob arq cn M S x y r ∧ PW T h7 (nx_firstBright ac ap ash an aob arq cn M S x y r) w1) (fun Ex w1 => ∃ i : Nat, [jE1, jE2][i]? = some Ex ∧ kf_firstBright ac ap ash an aob arq cn M S x y = i + 1 ∧ PW T h7 ((ac, ap, ash, an, aob, arq), cn, M, S) w1) := by
  refine PW.ex W0 fun hS a0 ao ar d0 d1 d2 h1 hst hsl h2 ga go gr h3 he hew hy hyw hc hcw h4 hs so sr hl hlw hdr hh hhw hv hq ha ol dc dp dn ck gp gn mk p t0 sc sp st ds gs ss bs bd ax ay az lim dob drq gob grq sob srq E Y Ch LW hd dr sf slf P Q hw hmI hqI hsk hhd => ?_
  obtain ⟨⟨oc, op, on, orq, oco, oob⟩, oM, oS⟩ := okS.of O
  refine jX.frame (c_X7_firstBright l T (hlS := hlS) (h7 := h7) (d0 := d0) (h1 := h1) (hsl := hsl) (h3 := h3) (h2 := h2) (h4 := h4) (hS := hS) (hs := hs) (so := so) (sr := sr) (hl := hl) (hlw := hlw) (hdr := hdr) (hh := hh) (hv := hv) (hq := hq) (ha := ha) (sc := sc) (sp := sp) (st := st) (ss := ss) (ob := sob) (rq := srq) (ax := ax) (ay := ay) (az := az) (lim := lim) (LW := LW) (dr := dr) (a0 := a0) (ao := ao) (ar := ar) (ac := ac) (ap := ap) (an := an) (ash := ash) (aob := aob) (arq := arq) (x := x) (y := y) (hI := hsk)) (pw_q hw pmA_34_4) (fun v w1 h => ?_) (fun Ex w1 h => ?_)
  · obtain ⟨c, fr, ax', ay', az', lim', dr', r, rfl, rfl, ⟨g1, g2, g3, g4⟩, k5, g6⟩ := h
    have e_x : xN x = c := xN_e g1 (by omega)
    have e_y : xN y = fr := xN_e g2 (by omega)
    have i_x : inR x 0 149 = true := xRn g1 (by omega) (by omega) (by omega)
    have i_y : inR y 0 300 = true := xRn g2 (by omega) (by omega) (by omega)
    refine ⟨by simp [kf_firstBright, i_x, i_y, e_x, e_y, g3, g4, g6], _, rfl, by unfold rs_firstBright; rw [e_x, e_y]; assumption, ?_⟩
    show PW T h7 ((ac, ap, ash, an, aob, arq), cn, M, S) _
    exact PW.mk (pw_qb pmA_34_4.symm) hmI hqI k5 hhd
  · obtain ⟨rfl, hd9⟩ := h
    refine ex3 (PW.mk (pw_qb pmA_34_4.symm) hmI hqI hsk hhd) ?_
    rcases hd9 with ⟨rfl, g7⟩ | ⟨rfl, g8, g9⟩
    · exact ⟨0, rfl, by simp [kf_firstBright, g7]⟩
    · exact ⟨1, rfl, by simp [kf_firstBright, g8, g9]⟩
set_option maxHeartbeats 4000000 in
theorem k_X7_setAxis (l : Launch) (T : jj_T) (hlS : l.stackTraces = false) {h7 : Nat} {ac ap : Nat} {ash : Bool} {an : Nat} {aob arq : Nat → Int32} {cn : Nat} {M : Nat → aS} {S : Nat → Option aS} {w : va_W} (x : Int32) (y : Int32) (z : Int32) (u : Int32) (W0 : PW T h7 ((ac, ap, ash, an, aob, arq), cn, M, S) w) (O : okS ((ac, ap, ash, an, aob, arq), cn, M, S)) : jX l T yX7_setAxis wsX7_setAxis { frames := 8, cells := 9, slots := 75, locals := 145 } [.ref h7, .int x, .int y, .int z, .int u] w (fun v w1 => kf_setAxis ac ap ash an aob arq cn M S x y z u = 0 ∧ ∃ r : Int32, v = some (.int r) ∧ rs_setAxis ac ap ash an aob arq cn M S x y z u r ∧ PW T h7 (nx_setAxis ac ap ash an aob arq cn M S x y z u r) w1) (fun Ex w1 => ∃ i : Nat, [jE1, jE2, jE3][i]? = some Ex ∧ kf_setAxis ac ap ash an aob arq cn M S x y z u = i + 1 ∧ PW T h7 ((ac, ap, ash, an, aob, arq), cn, M, S) w1) := by
  refine PW.ex W0 fun hS a0 ao ar d0 d1 d2 h1 hst hsl h2 ga go gr h3 he hew hy hyw hc hcw h4 hs so sr hl hlw hdr hh hhw hv hq ha ol dc dp dn ck gp gn mk p t0 sc sp st ds gs ss bs bd ax ay az lim dob drq gob grq sob srq E Y Ch LW hd dr sf slf P Q hw hmI hqI hsk hhd => ?_
  obtain ⟨⟨oc, op, on, orq, oco, oob⟩, oM, oS⟩ := okS.of O
  refine jX.frame (c_X7_setAxis l T (hlS := hlS) (h7 := h7) (h1 := h1) (hsl := hsl) (h3 := h3) (h2 := h2) (h4 := h4) (hS := hS) (hs := hs) (so := so) (sr := sr) (hl := hl) (hlw := hlw) (hdr := hdr) (hh := hh) (hv := hv) (hq := hq) (ha := ha) (sc := sc) (sp := sp) (st := st) (ss := ss) (ob := sob) (rq := srq) (ax := ax) (ay := ay) (az := az) (lim := lim) (LW := LW) (dr := dr) (d0 := d0) (d1 := d1) (d2 := d2) (dc := dc) (dp := dp) (dn := dn) (ds := ds) (dob := dob) (drq := drq) (a0 := a0) (ao := ao) (ar := ar) (ac := ac) (ap := ap) (an := an) (ash := ash) (aob := aob) (arq := arq) (hst := hst) (cn := cn) (ol := ol) (sf := sf) (kp := P ((ol + cn) % 14)) (x := x) (y := y) (z := z) (u := u) (hcn := hmI.1) (hol := hmI.2.1) (hsf := hmI.at) (hI := hsk) (hap := op) (hac := oc)) (pw_t (i := (ol + cn) % 14) hw pmA_34_5 (Nat.mod_lt _ (by decide))) (fun v w1 h => ?_) (fun Ex w1 h => ?_)
  · obtain ⟨o, ax', ay', az', lim', LW', dr', k0, ko, kr, rfl, rfl, ⟨g1, g2, g3, g4, g5⟩, k6⟩ := h
    have e_x : xN x = o := xN_e g1 (by omega)
    have i_x : inR x 0 2 = true := xRn g1 (by omega) (by omega) (by omega)
    refine ⟨by unfold kf_setAxis; rw [e_x, if_neg (nf i_x), if_neg (nf (by rw [g3, nz_t g4]; rfl)), if_neg (nt (st3 g5))], _, rfl, by unfold rs_setAxis; rw [e_x], ?_⟩
    show PW T h7 ((ac, ap, ash, an, (upd (upd (upd aob (7 * xN x + 0) y) (7 * xN x + (0 + 1)) z) (7 * xN x + (0 + 2)) u), arq), pushN cn, pushM cn M (ac, ap, ash, an, aob, arq), S) _
    rw [e_x]
    exact PW.mk (pw_tb (i := (ol + cn) % 14) (some (k0, ko, kr, ac, ap, ash, an, aob, arq)) pmA_34_5.symm (Nat.mod_lt _ (by decide))) (mem_push hmI k0 ko kr (ac, ap, ash, an, aob, arq)) hqI k6 hhd
  · obtain ⟨ob', ax', ay', az', lim', dr', dc', dp', dn', ds', dob', drq', rfl, hk9, hd9⟩ := h
    refine ex3 (PW.mk (pw_tx (i := (ol + cn) % 14) pmA_34_5.symm (Nat.mod_lt _ (by decide))) hmI hqI hk9 hhd) ?_
    rcases hd9 with ⟨rfl, g7⟩ | ⟨rfl, g8, g9⟩ | ⟨rfl, g10, g11, ⟨g12, g13, g14⟩⟩ | ⟨rfl, g15, g16, g17, ⟨v18, g19, g20, g21, g22⟩⟩
    · exact ⟨0, rfl, by simp [kf_setAxis, g7]⟩
    · exact ⟨1, rfl, by unfold kf_setAxis; rw [if_neg (nf g8), if_pos (by rw [g9]; rfl)]⟩
    · exact ⟨1, rfl, by unfold kf_setAxis; rw [if_neg (nf g10), if_pos (by rw [nz_f ⟨g12, g13, g14⟩, Bool.and_false])]⟩
    · exact ⟨2, rfl, by unfold kf_setAxis; rw [xN_e g19 (by omega : v18 < 100000), if_neg (nf g15), if_neg (nf (by rw [g16, nz_t g17]; rfl)), if_pos (by rw [g21, g22]; rfl)]⟩
set_option maxHeartbeats 4000000 in
theorem k_X7_setDrift (l : Launch) (T : jj_T) (hlS : l.stackTraces = false) {h7 : Nat} {ac ap : Nat} {ash : Bool} {an : Nat} {aob arq : Nat → Int32} {cn : Nat} {M : Nat → aS} {S : Nat → Option aS} {w : va_W} (x : Int32) (y : Int32) (z : Int32) (u : Int32) (W0 : PW T h7 ((ac, ap, ash, an, aob, arq), cn, M, S) w) (O : okS ((ac, ap, ash, an, aob, arq), cn, M, S)) : jX l T yX7_setDrift wsX7_setDrift { frames := 8, cells := 8, slots := 69, locals := 145 } [.ref h7, .int x, .int y, .int z, .int u] w (fun v w1 => kf_setDrift ac ap ash an aob arq cn M S x y z u = 0 ∧ ∃ r : Int32, v = some (.int r) ∧ rs_setDrift ac ap ash an aob arq cn M S x y z u r ∧ PW T h7 (nx_setDrift ac ap ash an aob arq cn M S x y z u r) w1) (fun Ex w1 => ∃ i : Nat, [jE1, jE2, jE3][i]? = some Ex ∧ kf_setDrift ac ap ash an aob arq cn M S x y z u = i + 1 ∧ PW T h7 ((ac, ap, ash, an, aob, arq), cn, M, S) w1) := by
  refine PW.ex W0 fun hS a0 ao ar d0 d1 d2 h1 hst hsl h2 ga go gr h3 he hew hy hyw hc hcw h4 hs so sr hl hlw hdr hh hhw hv hq ha ol dc dp dn ck gp gn mk p t0 sc sp st ds gs ss bs bd ax ay az lim dob drq gob grq sob srq E Y Ch LW hd dr sf slf P Q hw hmI hqI hsk hhd => ?_
  obtain ⟨⟨oc, op, on, orq, oco, oob⟩, oM, oS⟩ := okS.of O
  refine jX.frame (c_X7_setDrift l T (hlS := hlS) (h7 := h7) (h1 := h1) (hsl := hsl) (h3 := h3) (h2 := h2) (h4 := h4) (hS := hS) (hs := hs) (so := so) (sr := sr) (hl := hl) (hlw := hlw) (hdr := hdr) (hh := hh) (hv := hv) (hq := hq) (ha := ha) (sc := sc) (sp := sp) (st := st) (ss := ss) (ob := sob) (rq := srq) (ax := ax) (ay := ay) (az := az) (lim := lim) (LW := LW) (dr := dr) (d0 := d0) (d1 := d1) (d2 := d2) (dc := dc) (dp := dp) (dn := dn) (ds := ds) (dob := dob) (drq := drq) (a0 := a0) (ao := ao) (ar := ar) (ac := ac) (ap := ap) (an := an) (ash := ash) (aob := aob) (arq := arq) (hst := hst) (cn := cn) (ol := ol) (sf := sf) (kp := P ((ol + cn) % 14)) (x := x) (y := y) (z := z) (u := u) (hcn := hmI.1) (hol := hmI.2.1) (hsf := hmI.at) (hI := hsk) (hap := op) (hac := oc)) (pw_t (i := (ol + cn) % 14) hw pmA_34_5 (Nat.mod_lt _ (by decide))) (fun v w1 h => ?_) (fun Ex w1 h => ?_)
  · obtain ⟨o, ax', ay', az', lim', LW', dr', k0, ko, kr, rfl, rfl, ⟨g1, g2, g3, g4⟩, k5⟩ := h
    have e_x : xN x = o := xN_e g1 (by omega)
    have i_x : inR x 0 2 = true := xRn g1 (by omega) (by omega) (by omega)
    refine ⟨by unfold kf_setDrift; rw [e_x, if_neg (nf i_x), if_neg (nf g3), if_neg (nt (st3 g4))], _, rfl, by unfold rs_setDrift; rw [e_x], ?_⟩
    show PW T h7 ((ac, ap, ash, an, (upd (upd (upd aob (7 * xN x + 3) y) (7 * xN x + (3 + 1)) z) (7 * xN x + (3 + 2)) u), arq), pushN cn, pushM cn M (ac, ap, ash, an, aob, arq), S) _
    rw [e_x]
    exact PW.mk (pw_tb (i := (ol + cn) % 14) (some (k0, ko, kr, ac, ap, ash, an, aob, arq)) pmA_34_5.symm (Nat.mod_lt _ (by decide))) (mem_push hmI k0 ko kr (ac, ap, ash, an, aob, arq)) hqI k5 hhd
  · obtain ⟨ob', ax', ay', az', lim', dr', dc', dp', dn', ds', dob', drq', rfl, hk9, hd9⟩ := h
    refine ex3 (PW.mk (pw_tx (i := (ol + cn) % 14) pmA_34_5.symm (Nat.mod_lt _ (by decide))) hmI hqI hk9 hhd) ?_
    rcases hd9 with ⟨rfl, g6⟩ | ⟨rfl, g7, g8⟩ | ⟨rfl, g9, g10, ⟨v11, g12, g13, g14, g15⟩⟩
    · exact ⟨0, rfl, by simp [kf_setDrift, g6]⟩
    · exact ⟨1, rfl, by simp [kf_setDrift, g7, g8]⟩
    · exact ⟨2, rfl, by unfold kf_setDrift; rw [xN_e g12 (by omega : v11 < 100000), if_neg (nf g9), if_neg (nf g10), if_pos (by rw [g14, g15]; rfl)]⟩
set_option maxHeartbeats 4000000 in
theorem k_X7_setCone (l : Launch) (T : jj_T) (hlS : l.stackTraces = false) {h7 : Nat} {ac ap : Nat} {ash : Bool} {an : Nat} {aob arq : Nat → Int32} {cn : Nat} {M : Nat → aS} {S : Nat → Option aS} {w : va_W} (x : Int32) (y : Int32) (W0 : PW T h7 ((ac, ap, ash, an, aob, arq), cn, M, S) w) (O : okS ((ac, ap, ash, an, aob, arq), cn, M, S)) : jX l T yX7_setCone wsX7_setCone { frames := 7, cells := 6, slots := 57, locals := 145 } [.ref h7, .int x, .int y] w (fun v w1 => kf_setCone ac ap ash an aob arq cn M S x y = 0 ∧ ∃ r : Int32, v = some (.int r) ∧ rs_setCone ac ap ash an aob arq cn M S x y r ∧ PW T h7 (nx_setCone ac ap ash an aob arq cn M S x y r) w1) (fun Ex w1 => ∃ i : Nat, [jE1, jE2, jE3][i]? = some Ex ∧ kf_setCone ac ap ash an aob arq cn M S x y = i + 1 ∧ PW T h7 ((ac, ap, ash, an, aob, arq), cn, M, S) w1) := by
  refine PW.ex W0 fun hS a0 ao ar d0 d1 d2 h1 hst hsl h2 ga go gr h3 he hew hy hyw hc hcw h4 hs so sr hl hlw hdr hh hhw hv hq ha ol dc dp dn ck gp gn mk p t0 sc sp st ds gs ss bs bd ax ay az lim dob drq gob grq sob srq E Y Ch LW hd dr sf slf P Q hw hmI hqI hsk hhd => ?_
  obtain ⟨⟨oc, op, on, orq, oco, oob⟩, oM, oS⟩ := okS.of O
  refine jX.frame (c_X7_setCone l T (hlS := hlS) (h7 := h7) (h1 := h1) (hsl := hsl) (h3 := h3) (h2 := h2) (h4 := h4) (hS := hS) (hs := hs) (so := so) (sr := sr) (hl := hl) (hlw := hlw) (hdr := hdr) (hh := hh) (hv := hv) (hq := hq) (ha := ha) (sc := sc) (sp := sp) (st := st) (ss := ss) (ob := sob) (rq := srq) (ax := ax) (ay := ay) (az := az) (lim := lim) (LW := LW) (dr := dr) (d0 := d0) (d1 := d1) (d2 := d2) (dc := dc) (dp := dp) (dn := dn) (ds := ds) (dob := dob) (drq := drq) (a0 := a0) (ao := ao) (ar := ar) (ac := ac) (ap := ap) (an := an) (ash := ash) (aob := aob) (arq := arq) (hst := hst) (cn := cn) (ol := ol) (sf := sf) (kp := P ((ol + cn) % 14)) (x := x) (y := y) (hcn := hmI.1) (hol := hmI.2.1) (hsf := hmI.at) (hI := hsk) (hap := op) (hac := oc)) (pw_t (i := (ol + cn) % 14) hw pmA_34_5 (Nat.mod_lt _ (by decide))) (fun v w1 h => ?_) (fun Ex w1 h => ?_)
  · obtain ⟨o, ax', ay', az', lim', LW', dr', k0, ko, kr, rfl, rfl, ⟨g1, g2, g3, g4⟩, k5⟩ := h
    have e_x : xN x = o := xN_e g1 (by omega)
    have i_x : inR x 0 2 = true := xRn g1 (by omega) (by omega) (by omega)
    refine ⟨by unfold kf_setCone; rw [e_x, if_neg (nf i_x), if_neg (nf g3), if_neg (nt (st3 g4))], _, rfl, by unfold rs_setCone; rw [e_x], ?_⟩
    show PW T h7 ((ac, ap, ash, an, (upd aob (7 * xN x + 6) y), arq), pushN cn, pushM cn M (ac, ap, ash, an, aob, arq), S) _
    rw [e_x]
    exact PW.mk (pw_tb (i := (ol + cn) % 14) (some (k0, ko, kr, ac, ap, ash, an, aob, arq)) pmA_34_5.symm (Nat.mod_lt _ (by decide))) (mem_push hmI k0 ko kr (ac, ap, ash, an, aob, arq)) hqI k5 hhd
  · obtain ⟨ob', ax', ay', az', lim', dr', dc', dp', dn', ds', dob', drq', rfl, hk9, hd9⟩ := h
    refine ex3 (PW.mk (pw_tx (i := (ol + cn) % 14) pmA_34_5.symm (Nat.mod_lt _ (by decide))) hmI hqI hk9 hhd) ?_
    rcases hd9 with ⟨rfl, g6⟩ | ⟨rfl, g7, g8⟩ | ⟨rfl, g9, g10, ⟨v11, g12, g13, g14, g15⟩⟩
    · exact ⟨0, rfl, by simp [kf_setCone, g6]⟩
    · exact ⟨1, rfl, by simp [kf_setCone, g7, g8]⟩
    · exact ⟨2, rfl, by unfold kf_setCone; rw [xN_e g12 (by omega : v11 < 100000), if_neg (nf g9), if_neg (nf g10), if_pos (by rw [g14, g15]; rfl)]⟩
set_option maxHeartbeats 4000000 in
theorem k_X7_step (l : Launch) (T : jj_T) (hlS : l.stackTraces = false) {h7 : Nat} {ac ap : Nat} {ash : Bool} {an : Nat} {aob arq : Nat → Int32} {cn : Nat} {M : Nat → aS} {S : Nat → Option aS} {w : va_W} (x : Int32) (W0 : PW T h7 ((ac, ap, ash, an, aob, arq), cn, M, S) w) (O : okS ((ac, ap, ash, an, aob, arq), cn, M, S)) : jX l T yX7_step wsX7_step { frames := 7, cells := 6, slots := 57, locals := 125 } [.ref h7, .int x] w (fun v w1 => kf_step ac ap ash an aob arq cn M S x = 0 ∧ ∃ r : Int32, v = some (.int r) ∧ rs_step ac ap ash an aob arq cn M S x r ∧ PW T h7 (nx_step ac ap ash an aob arq cn M S x r) w1) (fun Ex w1 => ∃ i : Nat, [jE1, jE2, jE3][i]? = some Ex ∧ kf_step ac ap ash an aob arq cn M S x = i + 1 ∧ PW T h7 ((ac, ap, ash, an, aob, arq), cn, M, S) w1) := by
  refine PW.ex W0 fun hS a0 ao ar d0 d1 d2 h1 hst hsl h2 ga go gr h3 he hew hy hyw hc hcw h4 hs so sr hl hlw hdr hh hhw hv hq ha ol dc dp dn ck gp gn mk p t0 sc sp st ds gs ss bs bd ax ay az lim dob drq gob grq sob srq E Y Ch LW hd dr sf slf P Q hw hmI hqI hsk hhd => ?_
  obtain ⟨⟨oc, op, on, orq, oco, oob⟩, oM, oS⟩ := okS.of O
  refine jX.frame (c_X7_step l T (hlS := hlS) (h7 := h7) (d0 := d0) (h1 := h1) (hsl := hsl) (h3 := h3) (h2 := h2) (h4 := h4) (hS := hS) (hs := hs) (so := so) (sr := sr) (hl := hl) (hlw := hlw) (hdr := hdr) (hh := hh) (hv := hv) (hq := hq) (ha := ha) (sc := sc) (sp := sp) (st := st) (ss := ss) (ob := sob) (rq := srq) (ax := ax) (ay := ay) (az := az) (lim := lim) (LW := LW) (dr := dr) (hhw := hhw) (hd := hd) (a0 := a0) (ao := ao) (ar := ar) (ac := ac) (ap := ap) (an := an) (ash := ash) (aob := aob) (arq := arq) (hst := hst) (cn := cn) (ol := ol) (sf := sf) (kp := P ((ol + cn) % 14)) (x := x) (hcn := hmI.1) (hol := hmI.2.1) (hsf := hmI.at) (hI := hsk) (hap := op) (hac := oc)) (pw_t (i := (ol + cn) % 14) hw pmA_34_6 (Nat.mod_lt _ (by decide))) (fun v w1 h => ?_) (fun Ex w1 h => ?_)
  · obtain ⟨c, ax', ay', az', lim', dr', k0, ko, kr, rfl, rfl, ⟨g1, g2, g3, g4, g5, g6⟩, k7⟩ := h
    have e_x : xN x = c := xN_e g1 (by omega)
    have i_x : inR x 0 149 = true := xRn g1 (by omega) (by omega) (by omega)
    refine ⟨by unfold kf_step; rw [e_x, if_neg (nf i_x), if_neg (nf ((hhd ap op c (by omega)).symm.trans g3)), if_neg (nt (by rw [g4, decide_eq_false (by omega), g6]; rfl))], _, rfl, rfl, ?_⟩
    show PW T h7 ((ac + 1, xN x, ash, an, aob, arq), pushN cn, pushM cn M (ac, ap, ash, an, aob, arq), S) _
    rw [e_x]
    exact PW.mk (pw_tb (i := (ol + cn) % 14) (some (k0, ko, kr, ac, ap, ash, an, aob, arq)) pmA_34_6.symm (Nat.mod_lt _ (by decide))) (mem_push hmI k0 ko kr (ac, ap, ash, an, aob, arq)) hqI k7 hhd
  · obtain ⟨ob', ax', ay', az', lim', dr', rfl, hk9, hd9⟩ := h
    refine ex3 (PW.mk (pw_tx (i := (ol + cn) % 14) pmA_34_6.symm (Nat.mod_lt _ (by decide))) hmI hqI hk9 hhd) ?_
    rcases hd9 with ⟨rfl, g8⟩ | ⟨rfl, g9, ⟨v10, g11, g12, g13⟩⟩ | ⟨rfl, g14, ⟨v15, g16, g17, g18⟩, g19⟩ | ⟨rfl, g20, ⟨v21, g22, g23, g24⟩, g25, g26⟩ | ⟨rfl, g27, ⟨v28, g29, g30, g31⟩, g32, g33, ⟨v34, g35, g36, g37⟩⟩
    · exact ⟨0, rfl, by simp [kf_step, g8]⟩
    · exact ⟨1, rfl, by unfold kf_step; rw [xN_e g11 (by omega : v10 < 100000), if_neg (nf g9), if_pos (((hhd ap op v10 (by omega)).symm.trans g13))]⟩
    · exact ⟨2, rfl, by unfold kf_step; rw [xN_e g16 (by omega : v15 < 100000), if_neg (nf g14), if_neg (nf ((hhd ap op v15 (by omega)).symm.trans g18)), if_pos (by rw [g19]; rfl)]⟩
    · exact ⟨2, rfl, by unfold kf_step; rw [xN_e g22 (by omega : v21 < 100000), if_neg (nf g20), if_neg (nf ((hhd ap op v21 (by omega)).symm.trans g24)), if_pos (by rw [decide_eq_true g26, Bool.true_or, Bool.or_true])]⟩
    · exact ⟨2, rfl, by have e9 : v34 = v28 := (xN_e g35 (by omega : v34 < 100000)).symm.trans (xN_e g29 (by omega : v28 < 100000)); rw [e9] at g37; unfold kf_step; rw [xN_e g29 (by omega : v28 < 100000), if_neg (nf g27), if_neg (nf ((hhd ap op v28 (by omega)).symm.trans g31)), if_pos (by rw [g37, Bool.or_true, Bool.or_true])]⟩
set_option maxHeartbeats 4000000 in
theorem k_X7_slew (l : Launch) (T : jj_T) (hlS : l.stackTraces = false) {h7 : Nat} {ac ap : Nat} {ash : Bool} {an : Nat} {aob arq : Nat → Int32} {cn : Nat} {M : Nat → aS} {S : Nat → Option aS} {w : va_W} (x : Int32) (W0 : PW T h7 ((ac, ap, ash, an, aob, arq), cn, M, S) w) (O : okS ((ac, ap, ash, an, aob, arq), cn, M, S)) : jX l T yX7_slew wsX7_slew { frames := 7, cells := 6, slots := 57, locals := 125 } [.ref h7, .int x] w (fun v w1 => kf_slew ac ap ash an aob arq cn M S x = 0 ∧ ∃ r : Int32, v = some (.int r) ∧ rs_slew ac ap ash an aob arq cn M S x r ∧ PW T h7 (nx_slew ac ap ash an aob arq cn M S x r) w1) (fun Ex w1 => ∃ i : Nat, [jE1, jE3][i]? = some Ex ∧ kf_slew ac ap ash an aob arq cn M S x = i + 1 ∧ PW T h7 ((ac, ap, ash, an, aob, arq), cn, M, S) w1) := by
  refine PW.ex W0 fun hS a0 ao ar d0 d1 d2 h1 hst hsl h2 ga go gr h3 he hew hy hyw hc hcw h4 hs so sr hl hlw hdr hh hhw hv hq ha ol dc dp dn ck gp gn mk p t0 sc sp st ds gs ss bs bd ax ay az lim dob drq gob grq sob srq E Y Ch LW hd dr sf slf P Q hw hmI hqI hsk hhd => ?_
  obtain ⟨⟨oc, op, on, orq, oco, oob⟩, oM, oS⟩ := okS.of O
  refine jX.frame (c_X7_slew l T (hlS := hlS) (h7 := h7) (d0 := d0) (h1 := h1) (hsl := hsl) (h2 := h2) (h3 := h3) (h4 := h4) (he := he) (hew := hew) (hy := hy) (hyw := hyw) (hc := hc) (hcw := hcw) (hS := hS) (hs := hs) (so := so) (sr := sr) (hl := hl) (hlw := hlw) (hdr := hdr) (hh := hh) (hv := hv) (hq := hq) (ha := ha) (hhw := hhw) (sc := sc) (sp := sp) (st := st) (mk := mk) (p := p) (t0 := t0) (ss := ss) (ob := sob) (rq := srq) (ax := ax) (ay := ay) (az := az) (lim := lim) (LW := LW) (E := E) (Y := Y) (Ch := Ch) (hd := hd) (dr := dr) (a0 := a0) (ao := ao) (ar := ar) (ac := ac) (ap := ap) (an := an) (ash := ash) (aob := aob) (arq := arq) (hst := hst) (cn := cn) (ol := ol) (sf := sf) (kp := P ((ol + cn) % 14)) (x := x) (hcn := hmI.1) (hol := hmI.2.1) (hsf := hmI.at) (hap := op) (hac := oc) (hI := hsk) (hH := hhd)) (pw_t (i := (ol + cn) % 14) hw pmA_34_7 (Nat.mod_lt _ (by decide))) (fun v w1 h => ?_) (fun Ex w1 h => ?_)
  · obtain ⟨c, j, ax', ay', az', lim', LW', dr', E', mk', k0, ko, kr, rfl, rfl, ⟨g1, g2, g3, g4, g5, g6⟩, k7⟩ := h
    have e_x : xN x = c := xN_e g1 (by omega)
    have i_x : inR x 0 149 = true := xRn g1 (by omega) (by omega) (by omega)
    refine ⟨by unfold kf_slew; rw [e_x, if_neg (nf i_x), if_neg (nt g3), if_neg (nf (slwB_t g5 g4 g6))], _, rfl, by unfold rs_slew; rw [e_x]; exact ⟨j, rfl, g4, g5⟩, ?_⟩
    show PW T h7 ((ac + xN (nI j), xN x, ash, an, aob, arq), pushN cn, pushM cn M (ac, ap, ash, an, aob, arq), S) _
    rw [xN_nI (by omega : j < 100000)]
    rw [e_x]
    exact PW.mk (pw_tb (i := (ol + cn) % 14) (some (k0, ko, kr, ac, ap, ash, an, aob, arq)) pmA_34_7.symm (Nat.mod_lt _ (by decide))) (mem_push hmI k0 ko kr (ac, ap, ash, an, aob, arq)) hqI k7 hhd
  · obtain ⟨ob', ax', ay', az', lim', LW', dr', E', mk', p', t0', rfl, hk9, hd9⟩ := h
    refine ex3 (PW.mk (pw_tx (i := (ol + cn) % 14) pmA_34_7.symm (Nat.mod_lt _ (by decide))) hmI hqI hk9 hhd) ?_
    rcases hd9 with ⟨rfl, g8⟩ | ⟨rfl, g9, g10⟩ | ⟨rfl, g11, g12, ⟨v13, v14, g15, g16, g17, g18⟩⟩ | ⟨rfl, g19, g20, -, ⟨v21, v22, g23, g24, g25, g26, g27⟩⟩
    · exact ⟨0, rfl, by simp [kf_slew, g8]⟩
    · exact ⟨1, rfl, by simp [kf_slew, g9, g10]⟩
    · exact ⟨1, rfl, by unfold kf_slew; rw [xN_e g15 (by omega : v13 < 100000), if_neg (nf g11), if_neg (nt g12), if_pos (slwB_f g17 (Or.inl g18))]⟩
    · exact ⟨1, rfl, by unfold kf_slew; rw [xN_e g23 (by omega : v21 < 100000), if_neg (nf g19), if_neg (nt g20), if_pos (slwB_f g26 (Or.inr ⟨_, rfl, g25, g27⟩))]⟩
set_option maxHeartbeats 4000000 in
theorem k_X7_close (l : Launch) (T : jj_T) (hlS : l.stackTraces = false) {h7 : Nat} {ac ap : Nat} {ash : Bool} {an : Nat} {aob arq : Nat → Int32} {cn : Nat} {M : Nat → aS} {S : Nat → Option aS} {w : va_W}  (W0 : PW T h7 ((ac, ap, ash, an, aob, arq), cn, M, S) w) (O : okS ((ac, ap, ash, an, aob, arq), cn, M, S)) : jX l T yX7_close wsX7_close { frames := 7, cells := 5, slots := 51, locals := 125 } [.ref h7] w (fun v w1 => kf_close ac ap ash an aob arq cn M S = 0 ∧ ∃ r : Int32, v = some (.int r) ∧ rs_close ac ap ash an aob arq cn M S r ∧ PW T h7 (nx_close ac ap ash an aob arq cn M S r) w1) (fun Ex w1 => ∃ i : Nat, [jE3][i]? = some Ex ∧ kf_close ac ap ash an aob arq cn M S = i + 1 ∧ PW T h7 ((ac, ap, ash, an, aob, arq), cn, M, S) w1) := by
  refine PW.ex W0 fun hS a0 ao ar d0 d1 d2 h1 hst hsl h2 ga go gr h3 he hew hy hyw hc hcw h4 hs so sr hl hlw hdr hh hhw hv hq ha ol dc dp dn ck gp gn mk p t0 sc sp st ds gs ss bs bd ax ay az lim dob drq gob grq sob srq E Y Ch LW hd dr sf slf P Q hw hmI hqI hsk hhd => ?_
  obtain ⟨⟨oc, op, on, orq, oco, oob⟩, oM, oS⟩ := okS.of O
  refine jX.frame (c_X7_close l T (hlS := hlS) (h7 := h7) (hS := hS) (d0 := d0) (h1 := h1) (hsl := hsl) (h4 := h4) (h3 := h3) (h2 := h2) (a0 := a0) (ao := ao) (ar := ar) (ac := ac) (ap := ap) (an := an) (ash := ash) (aob := aob) (arq := arq) (hst := hst) (cn := cn) (ol := ol) (sf := sf) (kp := P ((ol + cn) % 14)) (hcn := hmI.1) (hol := hmI.2.1) (hsf := hmI.at)) (pw_t (i := (ol + cn) % 14) hw pmA_34_8 (Nat.mod_lt _ (by decide))) (fun v w1 h => ?_) (fun Ex w1 h => ?_)
  · obtain ⟨k0, ko, kr, rfl, rfl, g1⟩ := h
    refine ⟨by simp [kf_close, g1], _, rfl, rfl, ?_⟩
    show PW T h7 ((ac, ap, true, an, aob, arq), pushN cn, pushM cn M (ac, ap, ash, an, aob, arq), S) _
    exact PW.mk (pw_tb (i := (ol + cn) % 14) (some (k0, ko, kr, ac, ap, ash, an, aob, arq)) pmA_34_8.symm (Nat.mod_lt _ (by decide))) (mem_push hmI k0 ko kr (ac, ap, ash, an, aob, arq)) hqI hsk hhd
  · obtain ⟨rfl, hd9⟩ := h
    refine ex3 (PW.mk (pw_tx (i := (ol + cn) % 14) pmA_34_8.symm (Nat.mod_lt _ (by decide))) hmI hqI hsk hhd) ?_
    obtain ⟨rfl, g2⟩ := hd9
    exact ⟨0, rfl, by simp [kf_close, g2]⟩
set_option maxHeartbeats 4000000 in
theorem k_X7_open (l : Launch) (T : jj_T) (hlS : l.stackTraces = false) {h7 : Nat} {ac ap : Nat} {ash : Bool} {an : Nat} {aob arq : Nat → Int32} {cn : Nat} {M : Nat → aS} {S : Nat → Option aS} {w : va_W}  (W0 : PW T h7 ((ac, ap, ash, an, aob, arq), cn, M, S) w) (O : okS ((ac, ap, ash, an, aob, arq), cn, M, S)) : jX l T yX7_open wsX7_open { frames := 7, cells := 5, slots := 51, locals := 125 } [.ref h7] w (fun v w1 => kf_open ac ap ash an aob arq cn M S = 0 ∧ ∃ r : Int32, v = some (.int r) ∧ rs_open ac ap ash an aob arq cn M S r ∧ PW T h7 (nx_open ac ap ash an aob arq cn M S r) w1) (fun Ex w1 => ∃ i : Nat, [jE3][i]? = some Ex ∧ kf_open ac ap ash an aob arq cn M S = i + 1 ∧ PW T h7 ((ac, ap, ash, an, aob, arq), cn, M, S) w1) := by
  refine PW.ex W0 fun hS a0 ao ar d0 d1 d2 h1 hst hsl h2 ga go gr h3 he hew hy hyw hc hcw h4 hs so sr hl hlw hdr hh hhw hv hq ha ol dc dp dn ck gp gn mk p t0 sc sp st ds gs ss bs bd ax ay az lim dob drq gob grq sob srq E Y Ch LW hd dr sf slf P Q hw hmI hqI hsk hhd => ?_
  obtain ⟨⟨oc, op, on, orq, oco, oob⟩, oM, oS⟩ := okS.of O
  refine jX.frame (c_X7_open l T (hlS := hlS) (h7 := h7) (d0 := d0) (h1 := h1) (hsl := hsl) (h3 := h3) (h2 := h2) (h4 := h4) (hS := hS) (hs := hs) (so := so) (sr := sr) (hl := hl) (hlw := hlw) (hdr := hdr) (hh := hh) (hv := hv) (hq := hq) (ha := ha) (sc := sc) (sp := sp) (st := st) (ss := ss) (ob := sob) (rq := srq) (ax := ax) (ay := ay) (az := az) (lim := lim) (LW := LW) (dr := dr) (a0 := a0) (ao := ao) (ar := ar) (ac := ac) (ap := ap) (an := an) (ash := ash) (aob := aob) (arq := arq) (hst := hst) (cn := cn) (ol := ol) (sf := sf) (kp := P ((ol + cn) % 14)) (hcn := hmI.1) (hol := hmI.2.1) (hsf := hmI.at) (hI := hsk) (hap := op) (hac := oc)) (pw_t (i := (ol + cn) % 14) hw pmA_34_9 (Nat.mod_lt _ (by decide))) (fun v w1 h => ?_) (fun Ex w1 h => ?_)
  · obtain ⟨ax', ay', az', lim', dr', k0, ko, kr, rfl, rfl, ⟨g1, g2⟩, k3⟩ := h
    refine ⟨by simp [kf_open, g1, g2], _, rfl, rfl, ?_⟩
    show PW T h7 ((ac, ap, false, an, aob, arq), pushN cn, pushM cn M (ac, ap, ash, an, aob, arq), S) _
    exact PW.mk (pw_tb (i := (ol + cn) % 14) (some (k0, ko, kr, ac, ap, ash, an, aob, arq)) pmA_34_9.symm (Nat.mod_lt _ (by decide))) (mem_push hmI k0 ko kr (ac, ap, ash, an, aob, arq)) hqI k3 hhd
  · obtain ⟨ob', ax', ay', az', lim', dr', rfl, hk9, hd9⟩ := h
    refine ex3 (PW.mk (pw_tx (i := (ol + cn) % 14) pmA_34_9.symm (Nat.mod_lt _ (by decide))) hmI hqI hk9 hhd) ?_
    rcases hd9 with ⟨rfl, g4⟩ | ⟨rfl, g5, g6⟩
    · exact ⟨0, rfl, by simp [kf_open, g4]⟩
    · exact ⟨0, rfl, by simp [kf_open, g5, g6]⟩
set_option maxHeartbeats 4000000 in
theorem k_X7_pass (l : Launch) (T : jj_T) (hlS : l.stackTraces = false) {h7 : Nat} {ac ap : Nat} {ash : Bool} {an : Nat} {aob arq : Nat → Int32} {cn : Nat} {M : Nat → aS} {S : Nat → Option aS} {w : va_W} (x : Int32) (W0 : PW T h7 ((ac, ap, ash, an, aob, arq), cn, M, S) w) (O : okS ((ac, ap, ash, an, aob, arq), cn, M, S)) : jX l T yX7_pass wsX7_pass { frames := 7, cells := 6, slots := 57, locals := 125 } [.ref h7, .int x] w (fun v w1 => kf_pass ac ap ash an aob arq cn M S x = 0 ∧ ∃ r : Int32, v = some (.int r) ∧ rs_pass ac ap ash an aob arq cn M S x r ∧ PW T h7 (nx_pass ac ap ash an aob arq cn M S x r) w1) (fun Ex w1 => ∃ i : Nat, [jE2, jE3][i]? = some Ex ∧ kf_pass ac ap ash an aob arq cn M S x = i + 1 ∧ PW T h7 ((ac, ap, ash, an, aob, arq), cn, M, S) w1) := by
  refine PW.ex W0 fun hS a0 ao ar d0 d1 d2 h1 hst hsl h2 ga go gr h3 he hew hy hyw hc hcw h4 hs so sr hl hlw hdr hh hhw hv hq ha ol dc dp dn ck gp gn mk p t0 sc sp st ds gs ss bs bd ax ay az lim dob drq gob grq sob srq E Y Ch LW hd dr sf slf P Q hw hmI hqI hsk hhd => ?_
  obtain ⟨⟨oc, op, on, orq, oco, oob⟩, oM, oS⟩ := okS.of O
  refine jX.frame (c_X7_pass l T (hlS := hlS) (h7 := h7) (hS := hS) (d0 := d0) (h1 := h1) (hsl := hsl) (h4 := h4) (h3 := h3) (h2 := h2) (a0 := a0) (ao := ao) (ar := ar) (ac := ac) (ap := ap) (an := an) (ash := ash) (aob := aob) (arq := arq) (hst := hst) (cn := cn) (ol := ol) (sf := sf) (kp := P ((ol + cn) % 14)) (x := x) (hcn := hmI.1) (hol := hmI.2.1) (hsf := hmI.at) (hac := oc)) (pw_t (i := (ol + cn) % 14) hw pmA_34_8 (Nat.mod_lt _ (by decide))) (fun v w1 h => ?_) (fun Ex w1 h => ?_)
  · obtain ⟨n, k0, ko, kr, rfl, rfl, ⟨g1, g2, g3, g4, g5⟩⟩ := h
    have e_x : xN x = n := xN_e g1 (by omega)
    have i_x : inR x 1 100 = true := xRn g1 (by omega) (by omega) (by omega)
    refine ⟨by simp [kf_pass, i_x, e_x, g2, g3, g4, g5], _, rfl, by unfold rs_pass; rw [e_x], ?_⟩
    show PW T h7 ((ac + xN x, ap, ash, an, aob, arq), pushN cn, pushM cn M (ac, ap, ash, an, aob, arq), S) _
    rw [e_x]
    exact PW.mk (pw_tb (i := (ol + cn) % 14) (some (k0, ko, kr, ac, ap, ash, an, aob, arq)) pmA_34_8.symm (Nat.mod_lt _ (by decide))) (mem_push hmI k0 ko kr (ac, ap, ash, an, aob, arq)) hqI hsk hhd
  · obtain ⟨rfl, hd9⟩ := h
    refine ex3 (PW.mk (pw_tx (i := (ol + cn) % 14) pmA_34_8.symm (Nat.mod_lt _ (by decide))) hmI hqI hsk hhd) ?_
    rcases hd9 with ⟨rfl, g6⟩ | ⟨rfl, g7, g8⟩ | ⟨rfl, g9, g10, ⟨v11, g12, g13, g14⟩⟩
    · exact ⟨0, rfl, by simp [kf_pass, g6]⟩
    · exact ⟨1, rfl, by simp [kf_pass, g7, g8]⟩
    · exact ⟨1, rfl, by simp [kf_pass, g9, g10, g13, g14, xN_e g12 (by omega : v11 < 100000)]⟩
set_option maxHeartbeats 4000000 in
theorem k_X7_addRequest (l : Launch) (T : jj_T) (hlS : l.stackTraces = false) {h7 : Nat} {ac ap : Nat} {ash : Bool} {an : Nat} {aob arq : Nat → Int32} {cn : Nat} {M : Nat → aS} {S : Nat → Option aS} {w : va_W} (x : Int32) (y : Int32) (z : Int32) (W0 : PW T h7 ((ac, ap, ash, an, aob, arq), cn, M, S) w) (O : okS ((ac, ap, ash, an, aob, arq), cn, M, S)) : jX l T yX7_addRequest wsX7_addRequest { frames := 7, cells := 7, slots := 63, locals := 125 } [.ref h7, .int x, .int y, .int z] w (fun v w1 => kf_addRequest ac ap ash an aob arq cn M S x y z = 0 ∧ ∃ r : Int32, v = some (.int r) ∧ rs_addRequest ac ap ash an aob arq cn M S x y z r ∧ PW T h7 (nx_addRequest ac ap ash an aob arq cn M S x y z r) w1) (fun Ex w1 => ∃ i : Nat, [jE1, jE2, jE3][i]? = some Ex ∧ kf_addRequest ac ap ash an aob arq cn M S x y z = i + 1 ∧ PW T h7 ((ac, ap, ash, an, aob, arq), cn, M, S) w1) := by
  refine PW.ex W0 fun hS a0 ao ar d0 d1 d2 h1 hst hsl h2 ga go gr h3 he hew hy hyw hc hcw h4 hs so sr hl hlw hdr hh hhw hv hq ha ol dc dp dn ck gp gn mk p t0 sc sp st ds gs ss bs bd ax ay az lim dob drq gob grq sob srq E Y Ch LW hd dr sf slf P Q hw hmI hqI hsk hhd => ?_
  obtain ⟨⟨oc, op, on, orq, oco, oob⟩, oM, oS⟩ := okS.of O
  refine jX.frame (c_X7_addRequest l T (hlS := hlS) (h7 := h7) (hS := hS) (d0 := d0) (h1 := h1) (hsl := hsl) (h4 := h4) (h3 := h3) (h2 := h2) (a0 := a0) (ao := ao) (ar := ar) (ac := ac) (ap := ap) (an := an) (ash := ash) (aob := aob) (arq := arq) (hst := hst) (cn := cn) (ol := ol) (sf := sf) (kp := P ((ol + cn) % 14)) (x := x) (y := y) (z := z) (hcn := hmI.1) (hol := hmI.2.1) (hsf := hmI.at) (han := on)) (pw_t (i := (ol + cn) % 14) hw pmA_34_8 (Nat.mod_lt _ (by decide))) (fun v w1 h => ?_) (fun Ex w1 h => ?_)
  · obtain ⟨c, e, v9, k0, ko, kr, rfl, rfl, ⟨g1, g2, g3, g4, g5, g6, g7, g8, g9⟩⟩ := h
    have e_x : xN x = c := xN_e g1 (by omega)
    have e_y : xN y = e := xN_e g2 (by omega)
    have e_z : xN z = v9 := xN_e g3 (by omega)
    have i_x : inR x 0 149 = true := xRn g1 (by omega) (by omega) (by omega)
    have i_y : inR y 1 20 = true := xRn g2 (by omega) (by omega) (by omega)
    have i_z : inR z 1 99 = true := xRn g3 (by omega) (by omega) (by omega)
    refine ⟨by simp [kf_addRequest, i_x, i_y, i_z, e_x, e_y, e_z, g4, g5, g6, g7, g8, g9], _, rfl, rfl, ?_⟩
    show PW T h7 ((ac, ap, ash, an + 1, aob, upd (upd (upd arq (3 * an) x) (3 * an + 1) y) (3 * an + 2) z), pushN cn, pushM cn M (ac, ap, ash, an, aob, arq), S) _
    rw [g1, g2, g3]
    exact PW.mk (pw_tb (i := (ol + cn) % 14) (some (k0, ko, kr, ac, ap, ash, an, aob, arq)) pmA_34_8.symm (Nat.mod_lt _ (by decide))) (mem_push hmI k0 ko kr (ac, ap, ash, an, aob, arq)) hqI hsk hhd
  · obtain ⟨rfl, hd9⟩ := h
    refine ex3 (PW.mk (pw_tx (i := (ol + cn) % 14) pmA_34_8.symm (Nat.mod_lt _ (by decide))) hmI hqI hsk hhd) ?_
    rcases hd9 with ⟨rfl, g10⟩ | ⟨rfl, g11, g12⟩ | ⟨rfl, g13, g14, g15⟩ | ⟨rfl, g16, g17, g18, g19⟩
    · exact ⟨0, rfl, by simp [kf_addRequest, g10]⟩
    · exact ⟨1, rfl, by simp [kf_addRequest, g11, g12]⟩
    · exact ⟨1, rfl, by simp [kf_addRequest, g13, g14, g15]⟩
    · exact ⟨2, rfl, by simp [kf_addRequest, g16, g17, g18, g19]⟩
set_option maxHeartbeats 4000000 in
theorem k_X7_removeRequest (l : Launch) (T : jj_T) (hlS : l.stackTraces = false) {h7 : Nat} {ac ap : Nat} {ash : Bool} {an : Nat} {aob arq : Nat → Int32} {cn : Nat} {M : Nat → aS} {S : Nat → Option aS} {w : va_W} (x : Int32) (W0 : PW T h7 ((ac, ap, ash, an, aob, arq), cn, M, S) w) (O : okS ((ac, ap, ash, an, aob, arq), cn, M, S)) : jX l T yX7_removeRequest wsX7_removeRequest { frames := 7, cells := 4, slots := 45, locals := 125 } [.ref h7, .int x] w (fun v w1 => kf_removeRequest ac ap ash an aob arq cn M S x = 0 ∧ ∃ r : Int32, v = some (.int r) ∧ rs_removeRequest ac ap ash an aob arq cn M S x r ∧ PW T h7 (nx_removeRequest ac ap ash an aob arq cn M S x r) w1) (fun Ex w1 => ∃ i : Nat, [jE1][i]? = some Ex ∧ kf_removeRequest ac ap ash an aob arq cn M S x = i + 1 ∧ PW T h7 ((ac, ap, ash, an, aob, arq), cn, M, S) w1) := by
  refine PW.ex W0 fun hS a0 ao ar d0 d1 d2 h1 hst hsl h2 ga go gr h3 he hew hy hyw hc hcw h4 hs so sr hl hlw hdr hh hhw hv hq ha ol dc dp dn ck gp gn mk p t0 sc sp st ds gs ss bs bd ax ay az lim dob drq gob grq sob srq E Y Ch LW hd dr sf slf P Q hw hmI hqI hsk hhd => ?_
  obtain ⟨⟨oc, op, on, orq, oco, oob⟩, oM, oS⟩ := okS.of O
  refine jX.frame (c_X7_removeRequest l T (hlS := hlS) (h7 := h7) (hS := hS) (d0 := d0) (h1 := h1) (hsl := hsl) (h4 := h4) (h3 := h3) (h2 := h2) (a0 := a0) (ao := ao) (ar := ar) (ac := ac) (ap := ap) (an := an) (ash := ash) (aob := aob) (arq := arq) (hst := hst) (cn := cn) (ol := ol) (sf := sf) (kp := P ((ol + cn) % 14)) (x := x) (hcn := hmI.1) (hol := hmI.2.1) (hsf := hmI.at) (han := on)) (pw_t (i := (ol + cn) % 14) hw pmA_34_8 (Nat.mod_lt _ (by decide))) (fun v w1 h => ?_) (fun Ex w1 h => ?_)
  · obtain ⟨i, k0, ko, kr, rfl, rfl, ⟨g1, g2⟩⟩ := h
    have e_x : xN x = i := xN_e g1 (by omega)
    have i_x : inR x 0 ((an : Int) - 1) = true := xRn g1 (by omega) (by omega) (by omega)
    refine ⟨by simp [kf_removeRequest, i_x, e_x, g2], _, rfl, rfl, ?_⟩
    show PW T h7 ((ac, ap, ash, an - 1, aob, st_drop arq (xN x) an), pushN cn, pushM cn M (ac, ap, ash, an, aob, arq), S) _
    rw [e_x]
    exact PW.mk (pw_tb (i := (ol + cn) % 14) (some (k0, ko, kr, ac, ap, ash, an, aob, arq)) pmA_34_8.symm (Nat.mod_lt _ (by decide))) (mem_push hmI k0 ko kr (ac, ap, ash, an, aob, arq)) hqI hsk hhd
  · obtain ⟨rfl, hd9⟩ := h
    refine ex3 (PW.mk (pw_tx (i := (ol + cn) % 14) pmA_34_8.symm (Nat.mod_lt _ (by decide))) hmI hqI hsk hhd) ?_
    obtain ⟨rfl, g3⟩ := hd9
    exact ⟨0, rfl, by simp [kf_removeRequest, g3]⟩
set_option maxHeartbeats 4000000 in
theorem k_X7_arrival (l : Launch) (T : jj_T) (hlS : l.stackTraces = false) {h7 : Nat} {ac ap : Nat} {ash : Bool} {an : Nat} {aob arq : Nat → Int32} {cn : Nat} {M : Nat → aS} {S : Nat → Option aS} {w : va_W} (x : Int32) (W0 : PW T h7 ((ac, ap, ash, an, aob, arq), cn, M, S) w) (O : okS ((ac, ap, ash, an, aob, arq), cn, M, S)) : jX l T yX7_arrival wsX7_arrival { frames := 7, cells := 2, slots := 12, locals := 123 } [.ref h7, .int x] w (fun v w1 => kf_arrival ac ap ash an aob arq cn M S x = 0 ∧ ∃ r : Int32, v = some (.int r) ∧ rs_arrival ac ap ash an aob arq cn M S x r ∧ PW T h7 (nx_arrival ac ap ash an aob arq cn M S x r) w1) (fun Ex w1 => ∃ i : Nat, [jE1, jE3][i]? = some Ex ∧ kf_arrival ac ap ash an aob arq cn M S x = i + 1 ∧ PW T h7 ((ac, ap, ash, an, aob, arq), cn, M, S) w1) := by
  refine PW.ex W0 fun hS a0 ao ar d0 d1 d2 h1 hst hsl h2 ga go gr h3 he hew hy hyw hc hcw h4 hs so sr hl hlw hdr hh hhw hv hq ha ol dc dp dn ck gp gn mk p t0 sc sp st ds gs ss bs bd ax ay az lim dob drq gob grq sob srq E Y Ch LW hd dr sf slf P Q hw hmI hqI hsk hhd => ?_
  obtain ⟨⟨oc, op, on, orq, oco, oob⟩, oM, oS⟩ := okS.of O
  refine jX.frame (c_X7_arrival l T (hlS := hlS) (h7 := h7) (d0 := d0) (h1 := h1) (hsl := hsl) (h2 := h2) (h3 := h3) (h4 := h4) (he := he) (hew := hew) (hy := hy) (hyw := hyw) (hc := hc) (hcw := hcw) (hS := hS) (hs := hs) (so := so) (sr := sr) (hl := hl) (hlw := hlw) (hdr := hdr) (hh := hh) (hv := hv) (hq := hq) (ha := ha) (hhw := hhw) (sc := sc) (sp := sp) (st := st) (mk := mk) (p := p) (t0 := t0) (ss := ss) (ob := sob) (rq := srq) (ax := ax) (ay := ay) (az := az) (lim := lim) (LW := LW) (E := E) (Y := Y) (Ch := Ch) (hd := hd) (dr := dr) (a0 := a0) (ao := ao) (ar := ar) (ac := ac) (ap := ap) (an := an) (ash := ash) (aob := aob) (arq := arq) (x := x) (hap := op) (hac := oc) (hI := hsk) (hH := hhd)) (pw_q hw pmA_34_10) (fun v w1 h => ?_) (fun Ex w1 h => ?_)
  · obtain ⟨c, ax', ay', az', lim', LW', dr', E', mk', r, rfl, rfl, ⟨g1, g2, g3⟩, k4, g5⟩ := h
    have e_x : xN x = c := xN_e g1 (by omega)
    have i_x : inR x 0 149 = true := xRn g1 (by omega) (by omega) (by omega)
    refine ⟨by simp [kf_arrival, i_x, e_x, g2, g3, g5], _, rfl, by unfold rs_arrival; rw [e_x]; assumption, ?_⟩
    show PW T h7 ((ac, ap, ash, an, aob, arq), cn, M, S) _
    exact PW.mk (pw_qb pmA_34_10.symm) hmI hqI k4 hhd
  · obtain ⟨rfl, hd9⟩ := h
    refine ex3 (PW.mk (pw_qb pmA_34_10.symm) hmI hqI hsk hhd) ?_
    rcases hd9 with ⟨rfl, g6⟩ | ⟨rfl, g7, g8⟩
    · exact ⟨0, rfl, by simp [kf_arrival, g6]⟩
    · exact ⟨1, rfl, by simp [kf_arrival, g7, g8]⟩
set_option maxHeartbeats 4000000 in
theorem k_X7_planCell (l : Launch) (T : jj_T) (hlS : l.stackTraces = false) {h7 : Nat} {ac ap : Nat} {ash : Bool} {an : Nat} {aob arq : Nat → Int32} {cn : Nat} {M : Nat → aS} {S : Nat → Option aS} {w : va_W} (x : Int32) (y : Int32) (W0 : PW T h7 ((ac, ap, ash, an, aob, arq), cn, M, S) w) (O : okS ((ac, ap, ash, an, aob, arq), cn, M, S)) : jX l T yX7_planCell wsX7_planCell { frames := 7, cells := 3, slots := 18, locals := 142 } [.ref h7, .int x, .int y] w (fun v w1 => kf_planCell ac ap ash an aob arq cn M S x y = 0 ∧ ∃ r : Int32, v = some (.int r) ∧ rs_planCell ac ap ash an aob arq cn M S x y r ∧ PW T h7 (nx_planCell ac ap ash an aob arq cn M S x y r) w1) (fun Ex w1 => ∃ i : Nat, [jE1, jE2, jE3][i]? = some Ex ∧ kf_planCell ac ap ash an aob arq cn M S x y = i + 1 ∧ PW T h7 ((ac, ap, ash, an, aob, arq), cn, M, S) w1) := by
  refine PW.ex W0 fun hS a0 ao ar d0 d1 d2 h1 hst hsl h2 ga go gr h3 he hew hy hyw hc hcw h4 hs so sr hl hlw hdr hh hhw hv hq ha ol dc dp dn ck gp gn mk p t0 sc sp st ds gs ss bs bd ax ay az lim dob drq gob grq sob srq E Y Ch LW hd dr sf slf P Q hw hmI hqI hsk hhd => ?_
  obtain ⟨⟨oc, op, on, orq, oco, oob⟩, oM, oS⟩ := okS.of O
  refine jX.frame (c_X7_planCell l T (hlS := hlS) (h7 := h7) (d0 := d0) (h1 := h1) (hsl := hsl) (h2 := h2) (h3 := h3) (h4 := h4) (he := he) (hew := hew) (hy := hy) (hyw := hyw) (hc := hc) (hcw := hcw) (hS := hS) (hs := hs) (so := so) (sr := sr) (hl := hl) (hlw := hlw) (hdr := hdr) (hh := hh) (hv := hv) (hq := hq) (ha := ha) (hhw := hhw) (sc := sc) (sp := sp) (st := st) (mk := mk) (p := p) (t0 := t0) (ss := ss) (ob := sob) (rq := srq) (ax := ax) (ay := ay) (az := az) (lim := lim) (LW := LW) (E := E) (Y := Y) (Ch := Ch) (hd := hd) (dr := dr) (a0 := a0) (ao := ao) (ar := ar) (ac := ac) (ap := ap) (an := an) (ash := ash) (aob := aob) (arq := arq) (x := x) (y := y) (hap := op) (hac := oc) (hI := hsk) (hH := hhd)) (pw_q hw pmA_34_10) (fun v w1 h => ?_) (fun Ex w1 h => ?_)
  · obtain ⟨c, i, ax', ay', az', lim', LW', dr', E', Y', Ch', mk', r, rfl, rfl, ⟨g1, g2, g3, g4, g5⟩, k6, g7⟩ := h
    have e_x : xN x = c := xN_e g1 (by omega)
    have e_y : xN y = i := xN_e g2 (by omega)
    have i_x : inR x 0 149 = true := xRn g1 (by omega) (by omega) (by omega)
    have i_y : inR y 0 60 = true := xRn g2 (by omega) (by omega) (by omega)
    refine ⟨by simp [kf_planCell, i_x, i_y, e_x, e_y, g3, g4, g5, g7], _, rfl, by unfold rs_planCell; rw [e_x, e_y]; assumption, ?_⟩
    show PW T h7 ((ac, ap, ash, an, aob, arq), cn, M, S) _
    exact PW.mk (pw_qb pmA_34_10.symm) hmI hqI k6 hhd
  · obtain ⟨rfl, hd9⟩ := h
    refine ex3 (PW.mk (pw_qb pmA_34_10.symm) hmI hqI hsk hhd) ?_
    rcases hd9 with ⟨rfl, g8⟩ | ⟨rfl, g9, g10⟩ | ⟨rfl, g11, g12, g13⟩
    · exact ⟨0, rfl, by simp [kf_planCell, g8]⟩
    · exact ⟨1, rfl, by simp [kf_planCell, g9, g10]⟩
    · exact ⟨2, rfl, by simp [kf_planCell, g11, g12, g13]⟩
set_option maxHeartbeats 4000000 in
theorem k_X7_reachableCells (l : Launch) (T : jj_T) (hlS : l.stackTraces = false) {h7 : Nat} {ac ap : Nat} {ash : Bool} {an : Nat} {aob arq : Nat → Int32} {cn : Nat} {M : Nat → aS} {S : Nat → Option aS} {w : va_W} (x : Int32) (W0 : PW T h7 ((ac, ap, ash, an, aob, arq), cn, M, S) w) (O : okS ((ac, ap, ash, an, aob, arq), cn, M, S)) : jX l T yX7_reachableCells wsX7_reachableCells { frames := 7, cells := 2, slots := 12, locals := 123 } [.ref h7, .int x] w (fun v w1 => kf_reachableCells ac ap ash an aob arq cn M S x = 0 ∧ ∃ r : Int32, v = some (.int r) ∧ rs_reachableCells ac ap ash an aob arq cn M S x r ∧ PW T h7 (nx_reachableCells ac ap ash an aob arq cn M S x r) w1) (fun Ex w1 => ∃ i : Nat, [jE2, jE3][i]? = some Ex ∧ kf_reachableCells ac ap ash an aob arq cn M S x = i + 1 ∧ PW T h7 ((ac, ap, ash, an, aob, arq), cn, M, S) w1) := by
  refine PW.ex W0 fun hS a0 ao ar d0 d1 d2 h1 hst hsl h2 ga go gr h3 he hew hy hyw hc hcw h4 hs so sr hl hlw hdr hh hhw hv hq ha ol dc dp dn ck gp gn mk p t0 sc sp st ds gs ss bs bd ax ay az lim dob drq gob grq sob srq E Y Ch LW hd dr sf slf P Q hw hmI hqI hsk hhd => ?_
  obtain ⟨⟨oc, op, on, orq, oco, oob⟩, oM, oS⟩ := okS.of O
  refine jX.frame (c_X7_reachableCells l T (hlS := hlS) (h7 := h7) (d0 := d0) (h1 := h1) (hsl := hsl) (h2 := h2) (h3 := h3) (h4 := h4) (he := he) (hew := hew) (hy := hy) (hyw := hyw) (hc := hc) (hcw := hcw) (hS := hS) (hs := hs) (so := so) (sr := sr) (hl := hl) (hlw := hlw) (hdr := hdr) (hh := hh) (hv := hv) (hq := hq) (ha := ha) (hhw := hhw) (sc := sc) (sp := sp) (st := st) (mk := mk) (p := p) (t0 := t0) (ss := ss) (ob := sob) (rq := srq) (ax := ax) (ay := ay) (az := az) (lim := lim) (LW := LW) (E := E) (Y := Y) (Ch := Ch) (hd := hd) (dr := dr) (a0 := a0) (ao := ao) (ar := ar) (ac := ac) (ap := ap) (an := an) (ash := ash) (aob := aob) (arq := arq) (x := x) (hap := op) (hac := oc) (hI := hsk) (hH := hhd)) (pw_q hw pmA_34_10) (fun v w1 h => ?_) (fun Ex w1 h => ?_)
  · obtain ⟨k, ax', ay', az', lim', LW', dr', E', mk', rfl, rfl, ⟨g1, g2, g3⟩, k4⟩ := h
    have e_x : xN x = k := xN_e g1 (by omega)
    have i_x : inR x 0 60 = true := xRn g1 (by omega) (by omega) (by omega)
    refine ⟨by simp [kf_reachableCells, i_x, e_x, g2, g3], _, rfl, by unfold rs_reachableCells; rw [e_x], ?_⟩
    show PW T h7 ((ac, ap, ash, an, aob, arq), cn, M, S) _
    exact PW.mk (pw_qb pmA_34_10.symm) hmI hqI k4 hhd
  · obtain ⟨rfl, hd9⟩ := h
    refine ex3 (PW.mk (pw_qb pmA_34_10.symm) hmI hqI hsk hhd) ?_
    rcases hd9 with ⟨rfl, g5⟩ | ⟨rfl, g6, g7⟩
    · exact ⟨0, rfl, by simp [kf_reachableCells, g5]⟩
    · exact ⟨1, rfl, by simp [kf_reachableCells, g6, g7]⟩
set_option maxHeartbeats 4000000 in
theorem k_X7_parkingCell (l : Launch) (T : jj_T) (hlS : l.stackTraces = false) {h7 : Nat} {ac ap : Nat} {ash : Bool} {an : Nat} {aob arq : Nat → Int32} {cn : Nat} {M : Nat → aS} {S : Nat → Option aS} {w : va_W} (x : Int32) (W0 : PW T h7 ((ac, ap, ash, an, aob, arq), cn, M, S) w) (O : okS ((ac, ap, ash, an, aob, arq), cn, M, S)) : jX l T yX7_parkingCell wsX7_parkingCell { frames := 7, cells := 2, slots := 12, locals := 141 } [.ref h7, .int x] w (fun v w1 => kf_parkingCell ac ap ash an aob arq cn M S x = 0 ∧ ∃ r : Int32, v = some (.int r) ∧ rs_parkingCell ac ap ash an aob arq cn M S x r ∧ PW T h7 (nx_parkingCell ac ap ash an aob arq cn M S x r) w1) (fun Ex w1 => ∃ i : Nat, [jE2, jE3][i]? = some Ex ∧ kf_parkingCell ac ap ash an aob arq cn M S x = i + 1 ∧ PW T h7 ((ac, ap, ash, an, aob, arq), cn, M, S) w1) := by
  refine PW.ex W0 fun hS a0 ao ar d0 d1 d2 h1 hst hsl h2 ga go gr h3 he hew hy hyw hc hcw h4 hs so sr hl hlw hdr hh hhw hv hq ha ol dc dp dn ck gp gn mk p t0 sc sp st ds gs ss bs bd ax ay az lim dob drq gob grq sob srq E Y Ch LW hd dr sf slf P Q hw hmI hqI hsk hhd => ?_
  obtain ⟨⟨oc, op, on, orq, oco, oob⟩, oM, oS⟩ := okS.of O
  refine jX.frame (c_X7_parkingCell l T (hlS := hlS) (h7 := h7) (d0 := d0) (h1 := h1) (hsl := hsl) (h2 := h2) (h3 := h3) (h4 := h4) (he := he) (hew := hew) (hy := hy) (hyw := hyw) (hc := hc) (hcw := hcw) (hS := hS) (hs := hs) (so := so) (sr := sr) (hl := hl) (hlw := hlw) (hdr := hdr) (hh := hh) (hv := hv) (hq := hq) (ha := ha) (hhw := hhw) (sc := sc) (sp := sp) (st := st) (mk := mk) (p := p) (t0 := t0) (ss := ss) (ob := sob) (rq := srq) (ax := ax) (ay := ay) (az := az) (lim := lim) (LW := LW) (E := E) (Y := Y) (Ch := Ch) (hd := hd) (dr := dr) (a0 := a0) (ao := ao) (ar := ar) (ac := ac) (ap := ap) (an := an) (ash := ash) (aob := aob) (arq := arq) (x := x) (hap := op) (hac := oc) (hI := hsk) (hH := hhd)) (pw_q hw pmA_34_10) (fun v w1 h => ?_) (fun Ex w1 h => ?_)
  · obtain ⟨k, ax', ay', az', lim', LW', dr', E', mk', r1, r2, rfl, rfl, ⟨g1, g2, g3⟩, k4, g5, g6⟩ := h
    have e_x : xN x = k := xN_e g1 (by omega)
    have i_x : inR x 0 40 = true := xRn g1 (by omega) (by omega) (by omega)
    refine ⟨by simp [kf_parkingCell, i_x, e_x, g2, g3, g5], _, rfl, by unfold rs_parkingCell; rw [e_x]; exact ⟨_, g5, g6⟩, ?_⟩
    show PW T h7 ((ac, ap, ash, an, aob, arq), cn, M, S) _
    exact PW.mk (pw_qb pmA_34_10.symm) hmI hqI k4 hhd
  · obtain ⟨rfl, hd9⟩ := h
    refine ex3 (PW.mk (pw_qb pmA_34_10.symm) hmI hqI hsk hhd) ?_
    rcases hd9 with ⟨rfl, g7⟩ | ⟨rfl, g8, g9⟩
    · exact ⟨0, rfl, by simp [kf_parkingCell, g7]⟩
    · exact ⟨1, rfl, by simp [kf_parkingCell, g8, g9]⟩
set_option maxHeartbeats 4000000 in
theorem k_X7_parkingSteps (l : Launch) (T : jj_T) (hlS : l.stackTraces = false) {h7 : Nat} {ac ap : Nat} {ash : Bool} {an : Nat} {aob arq : Nat → Int32} {cn : Nat} {M : Nat → aS} {S : Nat → Option aS} {w : va_W} (x : Int32) (W0 : PW T h7 ((ac, ap, ash, an, aob, arq), cn, M, S) w) (O : okS ((ac, ap, ash, an, aob, arq), cn, M, S)) : jX l T yX7_parkingSteps wsX7_parkingSteps { frames := 7, cells := 2, slots := 12, locals := 141 } [.ref h7, .int x] w (fun v w1 => kf_parkingSteps ac ap ash an aob arq cn M S x = 0 ∧ ∃ r : Int32, v = some (.int r) ∧ rs_parkingSteps ac ap ash an aob arq cn M S x r ∧ PW T h7 (nx_parkingSteps ac ap ash an aob arq cn M S x r) w1) (fun Ex w1 => ∃ i : Nat, [jE2, jE3][i]? = some Ex ∧ kf_parkingSteps ac ap ash an aob arq cn M S x = i + 1 ∧ PW T h7 ((ac, ap, ash, an, aob, arq), cn, M, S) w1) := by
  refine PW.ex W0 fun hS a0 ao ar d0 d1 d2 h1 hst hsl h2 ga go gr h3 he hew hy hyw hc hcw h4 hs so sr hl hlw hdr hh hhw hv hq ha ol dc dp dn ck gp gn mk p t0 sc sp st ds gs ss bs bd ax ay az lim dob drq gob grq sob srq E Y Ch LW hd dr sf slf P Q hw hmI hqI hsk hhd => ?_
  obtain ⟨⟨oc, op, on, orq, oco, oob⟩, oM, oS⟩ := okS.of O
  refine jX.frame (c_X7_parkingSteps l T (hlS := hlS) (h7 := h7) (d0 := d0) (h1 := h1) (hsl := hsl) (h2 := h2) (h3 := h3) (h4 := h4) (he := he) (hew := hew) (hy := hy) (hyw := hyw) (hc := hc) (hcw := hcw) (hS := hS) (hs := hs) (so := so) (sr := sr) (hl := hl) (hlw := hlw) (hdr := hdr) (hh := hh) (hv := hv) (hq := hq) (ha := ha) (hhw := hhw) (sc := sc) (sp := sp) (st := st) (mk := mk) (p := p) (t0 := t0) (ss := ss) (ob := sob) (rq := srq) (ax := ax) (ay := ay) (az := az) (lim := lim) (LW := LW) (E := E) (Y := Y) (Ch := Ch) (hd := hd) (dr := dr) (a0 := a0) (ao := ao) (ar := ar) (ac := ac) (ap := ap) (an := an) (ash := ash) (aob := aob) (arq := arq) (x := x) (hap := op) (hac := oc) (hI := hsk) (hH := hhd)) (pw_q hw pmA_34_10) (fun v w1 h => ?_) (fun Ex w1 h => ?_)
  · obtain ⟨k, ax', ay', az', lim', LW', dr', E', mk', r, rfl, rfl, ⟨g1, g2, g3⟩, k4, g5⟩ := h
    have e_x : xN x = k := xN_e g1 (by omega)
    have i_x : inR x 0 40 = true := xRn g1 (by omega) (by omega) (by omega)
    refine ⟨by simp [kf_parkingSteps, i_x, e_x, g2, g3, g5], _, rfl, by unfold rs_parkingSteps; rw [e_x]; assumption, ?_⟩
    show PW T h7 ((ac, ap, ash, an, aob, arq), cn, M, S) _
    exact PW.mk (pw_qb pmA_34_10.symm) hmI hqI k4 hhd
  · obtain ⟨rfl, hd9⟩ := h
    refine ex3 (PW.mk (pw_qb pmA_34_10.symm) hmI hqI hsk hhd) ?_
    rcases hd9 with ⟨rfl, g6⟩ | ⟨rfl, g7, g8⟩
    · exact ⟨0, rfl, by simp [kf_parkingSteps, g6]⟩
    · exact ⟨1, rfl, by simp [kf_parkingSteps, g7, g8]⟩
set_option maxHeartbeats 4000000 in
theorem k_X7_requestFinish (l : Launch) (T : jj_T) (hlS : l.stackTraces = false) {h7 : Nat} {ac ap : Nat} {ash : Bool} {an : Nat} {aob arq : Nat → Int32} {cn : Nat} {M : Nat → aS} {S : Nat → Option aS} {w : va_W} (x : Int32) (W0 : PW T h7 ((ac, ap, ash, an, aob, arq), cn, M, S) w) (O : okS ((ac, ap, ash, an, aob, arq), cn, M, S)) : jX l T yX7_requestFinish wsX7_requestFinish { frames := 7, cells := 2, slots := 12, locals := 123 } [.ref h7, .int x] w (fun v w1 => kf_requestFinish ac ap ash an aob arq cn M S x = 0 ∧ ∃ r : Int32, v = some (.int r) ∧ rs_requestFinish ac ap ash an aob arq cn M S x r ∧ PW T h7 (nx_requestFinish ac ap ash an aob arq cn M S x r) w1) (fun Ex w1 => ∃ i : Nat, [jE1, jE3][i]? = some Ex ∧ kf_requestFinish ac ap ash an aob arq cn M S x = i + 1 ∧ PW T h7 ((ac, ap, ash, an, aob, arq), cn, M, S) w1) := by
  refine PW.ex W0 fun hS a0 ao ar d0 d1 d2 h1 hst hsl h2 ga go gr h3 he hew hy hyw hc hcw h4 hs so sr hl hlw hdr hh hhw hv hq ha ol dc dp dn ck gp gn mk p t0 sc sp st ds gs ss bs bd ax ay az lim dob drq gob grq sob srq E Y Ch LW hd dr sf slf P Q hw hmI hqI hsk hhd => ?_
  obtain ⟨⟨oc, op, on, orq, oco, oob⟩, oM, oS⟩ := okS.of O
  refine jX.frame (c_X7_requestFinish l T (hlS := hlS) (h7 := h7) (d0 := d0) (h1 := h1) (hsl := hsl) (h2 := h2) (h3 := h3) (h4 := h4) (he := he) (hew := hew) (hy := hy) (hyw := hyw) (hc := hc) (hcw := hcw) (hS := hS) (hs := hs) (so := so) (sr := sr) (hl := hl) (hlw := hlw) (hdr := hdr) (hh := hh) (hv := hv) (hq := hq) (ha := ha) (hhw := hhw) (sc := sc) (sp := sp) (st := st) (mk := mk) (p := p) (t0 := t0) (ss := ss) (ob := sob) (rq := srq) (ax := ax) (ay := ay) (az := az) (lim := lim) (LW := LW) (E := E) (Y := Y) (Ch := Ch) (hd := hd) (dr := dr) (a0 := a0) (ao := ao) (ar := ar) (ac := ac) (ap := ap) (an := an) (ash := ash) (aob := aob) (arq := arq) (x := x) (hap := op) (hac := oc) (hI := hsk) (hH := hhd) (han := on) (hrq := orq)) (pw_q hw pmA_34_10) (fun v w1 h => ?_) (fun Ex w1 h => ?_)
  · obtain ⟨i, ax', ay', az', lim', LW', dr', E', mk', r, rfl, rfl, ⟨g1, g2, g3⟩, k4, g5⟩ := h
    have e_x : xN x = i := xN_e g1 (by omega)
    have i_x : inR x 0 ((an : Int) - 1) = true := xRn g1 (by omega) (by omega) (by omega)
    refine ⟨by simp [kf_requestFinish, i_x, e_x, g2, g3, g5], _, rfl, by unfold rs_requestFinish; rw [e_x]; assumption, ?_⟩
    show PW T h7 ((ac, ap, ash, an, aob, arq), cn, M, S) _
    exact PW.mk (pw_qb pmA_34_10.symm) hmI hqI k4 hhd
  · obtain ⟨rfl, hd9⟩ := h
    refine ex3 (PW.mk (pw_qb pmA_34_10.symm) hmI hqI hsk hhd) ?_
    rcases hd9 with ⟨rfl, g6⟩ | ⟨rfl, g7, g8⟩
    · exact ⟨0, rfl, by simp [kf_requestFinish, g6]⟩
    · exact ⟨1, rfl, by simp [kf_requestFinish, g7, g8]⟩
set_option maxHeartbeats 4000000 in
theorem k_X7_bestValue (l : Launch) (T : jj_T) (hlS : l.stackTraces = false) {h7 : Nat} {ac ap : Nat} {ash : Bool} {an : Nat} {aob arq : Nat → Int32} {cn : Nat} {M : Nat → aS} {S : Nat → Option aS} {w : va_W}  (W0 : PW T h7 ((ac, ap, ash, an, aob, arq), cn, M, S) w) (O : okS ((ac, ap, ash, an, aob, arq), cn, M, S)) : jX l T yX7_bestValue wsX7_bestValue { frames := 18, cells := 1, slots := 6, locals := 654 } [.ref h7] w (fun v w1 => kf_bestValue ac ap ash an aob arq cn M S = 0 ∧ ∃ r : Int32, v = some (.int r) ∧ rs_bestValue ac ap ash an aob arq cn M S r ∧ PW T h7 (nx_bestValue ac ap ash an aob arq cn M S r) w1) (fun Ex w1 => ∃ i : Nat, [jE3][i]? = some Ex ∧ kf_bestValue ac ap ash an aob arq cn M S = i + 1 ∧ PW T h7 ((ac, ap, ash, an, aob, arq), cn, M, S) w1) := by
  refine PW.ex W0 fun hS a0 ao ar d0 d1 d2 h1 hst hsl h2 ga go gr h3 he hew hy hyw hc hcw h4 hs so sr hl hlw hdr hh hhw hv hq ha ol dc dp dn ck gp gn mk p t0 sc sp st ds gs ss bs bd ax ay az lim dob drq gob grq sob srq E Y Ch LW hd dr sf slf P Q hw hmI hqI hsk hhd => ?_
  obtain ⟨⟨oc, op, on, orq, oco, oob⟩, oM, oS⟩ := okS.of O
  refine jX.frame (c_X7_bestValue l T (hlS := hlS) (h7 := h7) (d0 := d0) (h1 := h1) (hsl := hsl) (bs := bs) (bd := bd) (h2 := h2) (ga := ga) (go := go) (gr := gr) (ck := ck) (gp := gp) (n := gn) (gs := gs) (gob := gob) (rq := grq) (h3 := h3) (h4 := h4) (he := he) (hew := hew) (hy := hy) (hyw := hyw) (hc := hc) (hcw := hcw) (hS := hS) (hs := hs) (so := so) (sr := sr) (hl := hl) (hlw := hlw) (hdr := hdr) (hh := hh) (hv := hv) (hq := hq) (ha := ha) (hhw := hhw) (sc := sc) (sp := sp) (st := st) (mk := mk) (p := p) (t0 := t0) (ss := ss) (ob := sob) (rq2 := srq) (ax := ax) (ay := ay) (az := az) (lim := lim) (LW := LW) (E := E) (Y := Y) (Ch := Ch) (hd := hd) (dr := dr) (a0 := a0) (ao := ao) (ar := ar) (ac := ac) (ap := ap) (an := an) (ash := ash) (aob := aob) (arq := arq) (hap := op) (hac := oc) (han := on) (hrq := orq) (hI := hsk) (hH := hhd)) (pw_q hw pmA_34_11) (fun v w1 h => ?_) (fun Ex w1 h => ?_)
  · obtain ⟨ax', ay', az', lim', LW', dr', E', mk', p', t0', rfl, rfl, g1, k2⟩ := h
    refine ⟨by simp [kf_bestValue, g1], _, rfl, rfl, ?_⟩
    show PW T h7 ((ac, ap, ash, an, aob, arq), cn, M, S) _
    exact PW.mk (pw_qb pmA_34_11.symm) hmI hqI k2 hhd
  · obtain ⟨rfl, hd9⟩ := h
    refine ex3 (PW.mk (pw_qb pmA_34_11.symm) hmI hqI hsk hhd) ?_
    obtain ⟨rfl, g3⟩ := hd9
    exact ⟨0, rfl, by simp [kf_bestValue, g3]⟩
set_option maxHeartbeats 4000000 in
theorem k_X7_bestOrder (l : Launch) (T : jj_T) (hlS : l.stackTraces = false) {h7 : Nat} {ac ap : Nat} {ash : Bool} {an : Nat} {aob arq : Nat → Int32} {cn : Nat} {M : Nat → aS} {S : Nat → Option aS} {w : va_W}  (W0 : PW T h7 ((ac, ap, ash, an, aob, arq), cn, M, S) w) (O : okS ((ac, ap, ash, an, aob, arq), cn, M, S)) : jX l T yX7_bestOrder wsX7_bestOrder { frames := 18, cells := 1, slots := 6, locals := 654 } [.ref h7] w (fun v w1 => kf_bestOrder ac ap ash an aob arq cn M S = 0 ∧ ∃ r : Int32, v = some (.int r) ∧ rs_bestOrder ac ap ash an aob arq cn M S r ∧ PW T h7 (nx_bestOrder ac ap ash an aob arq cn M S r) w1) (fun Ex w1 => ∃ i : Nat, [jE3][i]? = some Ex ∧ kf_bestOrder ac ap ash an aob arq cn M S = i + 1 ∧ PW T h7 ((ac, ap, ash, an, aob, arq), cn, M, S) w1) := by
  refine PW.ex W0 fun hS a0 ao ar d0 d1 d2 h1 hst hsl h2 ga go gr h3 he hew hy hyw hc hcw h4 hs so sr hl hlw hdr hh hhw hv hq ha ol dc dp dn ck gp gn mk p t0 sc sp st ds gs ss bs bd ax ay az lim dob drq gob grq sob srq E Y Ch LW hd dr sf slf P Q hw hmI hqI hsk hhd => ?_
  obtain ⟨⟨oc, op, on, orq, oco, oob⟩, oM, oS⟩ := okS.of O
  refine jX.frame (c_X7_bestOrder l T (hlS := hlS) (h7 := h7) (d0 := d0) (h1 := h1) (hsl := hsl) (bs := bs) (bd := bd) (h2 := h2) (ga := ga) (go := go) (gr := gr) (ck := ck) (gp := gp) (n := gn) (gs := gs) (gob := gob) (rq := grq) (h3 := h3) (h4 := h4) (he := he) (hew := hew) (hy := hy) (hyw := hyw) (hc := hc) (hcw := hcw) (hS := hS) (hs := hs) (so := so) (sr := sr) (hl := hl) (hlw := hlw) (hdr := hdr) (hh := hh) (hv := hv) (hq := hq) (ha := ha) (hhw := hhw) (sc := sc) (sp := sp) (st := st) (mk := mk) (p := p) (t0 := t0) (ss := ss) (ob := sob) (rq2 := srq) (ax := ax) (ay := ay) (az := az) (lim := lim) (LW := LW) (E := E) (Y := Y) (Ch := Ch) (hd := hd) (dr := dr) (a0 := a0) (ao := ao) (ar := ar) (ac := ac) (ap := ap) (an := an) (ash := ash) (aob := aob) (arq := arq) (hap := op) (hac := oc) (han := on) (hrq := orq) (hI := hsk) (hH := hhd)) (pw_q hw pmA_34_11) (fun v w1 h => ?_) (fun Ex w1 h => ?_)
  · obtain ⟨ax', ay', az', lim', LW', dr', E', mk', p', t0', rfl, rfl, g1, k2⟩ := h
    refine ⟨by simp [kf_bestOrder, g1], _, rfl, rfl, ?_⟩
    show PW T h7 ((ac, ap, ash, an, aob, arq), cn, M, S) _
    exact PW.mk (pw_qb pmA_34_11.symm) hmI hqI k2 hhd
  · obtain ⟨rfl, hd9⟩ := h
    refine ex3 (PW.mk (pw_qb pmA_34_11.symm) hmI hqI hsk hhd) ?_
    obtain ⟨rfl, g3⟩ := hd9
    exact ⟨0, rfl, by simp [kf_bestOrder, g3]⟩
set_option maxHeartbeats 4000000 in
theorem k_X7_randomWalk (l : Launch) (T : jj_T) (hlS : l.stackTraces = false) {h7 : Nat} {ac ap : Nat} {ash : Bool} {an : Nat} {aob arq : Nat → Int32} {cn : Nat} {M : Nat → aS} {S : Nat → Option aS} {w : va_W} (sd : Int64) (y : Int32) (W0 : PW T h7 ((ac, ap, ash, an, aob, arq), cn, M, S) w) (O : okS ((ac, ap, ash, an, aob, arq), cn, M, S)) : jX l T yX7_randomWalk wsX7_randomWalk { frames := 7, cells := 2, slots := 12, locals := 123 } [.ref h7, .long sd, .int y] w (fun v w1 => kf_randomWalk ac ap ash an aob arq cn M S sd y = 0 ∧ ∃ r : Int32, v = some (.int r) ∧ rs_randomWalk ac ap ash an aob arq cn M S sd y r ∧ PW T h7 (nx_randomWalk ac ap ash an aob arq cn M S sd y r) w1) (fun Ex w1 => ∃ i : Nat, [jE2, jE3][i]? = some Ex ∧ kf_randomWalk ac ap ash an aob arq cn M S sd y = i + 1 ∧ PW T h7 ((ac, ap, ash, an, aob, arq), cn, M, S) w1) := by
  refine PW.ex W0 fun hS a0 ao ar d0 d1 d2 h1 hst hsl h2 ga go gr h3 he hew hy hyw hc hcw h4 hs so sr hl hlw hdr hh hhw hv hq ha ol dc dp dn ck gp gn mk p t0 sc sp st ds gs ss bs bd ax ay az lim dob drq gob grq sob srq E Y Ch LW hd dr sf slf P Q hw hmI hqI hsk hhd => ?_
  obtain ⟨⟨oc, op, on, orq, oco, oob⟩, oM, oS⟩ := okS.of O
  refine jX.frame (c_X7_randomWalk l T (hlS := hlS) (h7 := h7) (d0 := d0) (h1 := h1) (hsl := hsl) (h3 := h3) (h2 := h2) (h4 := h4) (hS := hS) (hs := hs) (so := so) (sr := sr) (hl := hl) (hlw := hlw) (hdr := hdr) (hh := hh) (hv := hv) (hq := hq) (ha := ha) (sc := sc) (sp := sp) (st := st) (ss := ss) (ob := sob) (rq := srq) (ax := ax) (ay := ay) (az := az) (lim := lim) (LW := LW) (dr := dr) (a0 := a0) (ao := ao) (ar := ar) (ac := ac) (ap := ap) (an := an) (ash := ash) (aob := aob) (arq := arq) (sd9 := sd) (y := y) (hap := op) (hac := oc) (hI := hsk)) (pw_q hw pmA_34_12) (fun v w1 h => ?_) (fun Ex w1 h => ?_)
  · obtain ⟨m, ax', ay', az', lim', dr', rfl, rfl, ⟨g1, g2, g3, g4⟩, k5⟩ := h
    have e_y : xN y = m := xN_e g1 (by omega)
    have i_y : inR y 1 60 = true := xRn g1 (by omega) (by omega) (by omega)
    refine ⟨by simp [kf_randomWalk, i_y, e_y, g2, g3, g4], _, rfl, by unfold rs_randomWalk; rw [e_y], ?_⟩
    show PW T h7 ((ac, ap, ash, an, aob, arq), cn, M, S) _
    exact PW.mk (pw_qb pmA_34_12.symm) hmI hqI k5 hhd
  · obtain ⟨rfl, hd9⟩ := h
    refine ex3 (PW.mk (pw_qb pmA_34_12.symm) hmI hqI hsk hhd) ?_
    rcases hd9 with ⟨rfl, g6⟩ | ⟨rfl, g7, g8⟩
    · exact ⟨0, rfl, by simp [kf_randomWalk, g6]⟩
    · exact ⟨1, rfl, by simp [kf_randomWalk, g7, g8]⟩
