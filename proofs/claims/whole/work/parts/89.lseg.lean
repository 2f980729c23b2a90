/-! the law: one row of its script -/
def KK (K : KT) (b0 q v w9 : Nat) (b tb r m o d a : Nat → Nat) (i : Int) (ce sl : Nat) : Prop := ∀ (c : Int) (L : List ((Nat → Nat) × (Int → Int))) (z : Int) (X : Int → Int) (F : Int → Int) (Nx : Int → Int) (f0 : Int → Int) (th : Int → Int) (S : Int → Int) (T : Int → Int) (Xs : Int → Int) (Es : Int → Int) (Ds : Int → Int) (Bs : Int → Int) (O : Int → Int) (t : Int → Int) (Y : Int → Int) (G : Int → Int) (M : Int → Int) (TR : Int → Int) (V : Int → Int) (tt : Int → Int) (D1 : Int → Int) (B1 : Int → Int) (R : Int → Int) (N1 : Int → Int) (BR : Int → Int) (X1 : Int → Int) (L1 : Int → Int) (F1 : Int → Int) (Y1 : Int → Int) (w1 : Int → Int) (w2 : Int → Int) (w3 : Int → Int) (w4 : Int → Int) (w5 : Int → Int), LRel S c L O t G M V → t = tt → J K (ce + 9) (sl + 333) [[(w9, lJ ((kC K) 3) 1 Y)], prO q v b tb r m o c, svB (kC K) v L, rgO r (d 0) z, dbO d, [(d 1, aJ ((kC K) 0) 49 X)], [(d 2, aJ ((kC K) 0) 49 F)], [(d 3, aJ ((kC K) 0) 40 Nx)], [(r 1, aJ ((kC K) 0) 2365 f0)], [(r 2, aJ ((kC K) 0) 49 th)], bk (kC K) b S, bk (kC K) tb T, rmO m, [(m 1, aJ ((kC K) 0) 40 Xs)], [(m 2, aJ ((kC K) 0) 7 Es)], [(m 3, aJ ((kC K) 0) 7 Ds)], [(m 4, aJ ((kC K) 0) 7 Bs)], orO o O, [(o 1, aJ ((kC K) 0) 100 t)], mO a G, [(a 1, aJ ((kC K) 0) 325 M)], [(a 2, aJ ((kC K) 0) 325 TR)], [(a 3, aJ ((kC K) 0) 1300 V)], [(a 4, aJ ((kC K) 0) 100 tt)], [(a 5, aJ ((kC K) 0) 49 D1)], [(a 6, aJ ((kC K) 0) 490 B1)], [(a 7, aJ ((kC K) 0) 8 R)], [(a 8, aJ ((kC K) 0) 9 N1)], [(a 9, aJ ((kC K) 0) 8 BR)], [(a 10, aJ ((kC K) 0) 40 X1)], [(a 11, aJ ((kC K) 0) 7 L1)], [(a 12, aJ ((kC K) 0) 7 F1)], [(a 13, aJ ((kC K) 0) 7 Y1)], [(a 14, aJ ((kC K) 0) 50 w1)], [(a 15, aJ ((kC K) 0) 50 w2)], [(a 16, aJ ((kC K) 0) 50 w3)], [(a 17, aJ ((kC K) 0) 50 w4)], [(a 18, aJ ((kC K) 0) 50 w5)]] [some (.ref b0), some (.ref q), some (.ref (a 0)), some (.ref w9), some (.int (iI i)), none, none] 1341 []
theorem pm_38_0_1_2_3_4_5_6_7_8_10 (B0 B1 B2 B3 B4 B5 B6 B7 B8 B9 B10 B11 B12 B13 B14 B15 B16 B17 B18 B19 B20 B21 B22 B23 B24 B25 B26 B27 B28 B29 B30 B31 B32 B33 B34 B35 B36 B37 : va_W) : [B0, B1, B2, B3, B4, B5, B6, B7, B8, B9, B10, B11, B12, B13, B14, B15, B16, B17, B18, B19, B20, B21, B22, B23, B24, B25, B26, B27, B28, B29, B30, B31, B32, B33, B34, B35, B36, B37].Perm ([B0, B1, B2, B3, B4, B5, B6, B7, B8, B10] ++ [B9, B11, B12, B13, B14, B15, B16, B17, B18, B19, B20, B21, B22, B23, B24, B25, B26, B27, B28, B29, B30, B31, B32, B33, B34, B35, B36, B37]) := List.Perm.trans (List.Perm.refl _) (List.Perm.trans (List.Perm.cons _ (List.Perm.refl _)) (List.Perm.trans (List.Perm.cons _ (List.Perm.cons _ (List.Perm.refl _))) (List.Perm.trans (List.Perm.cons _ (List.Perm.cons _ (List.Perm.cons _ (List.Perm.refl _)))) (List.Perm.trans (List.Perm.cons _ (List.Perm.cons _ (List.Perm.cons _ (List.Perm.cons _ (List.Perm.refl _))))) (List.Perm.trans (List.Perm.cons _ (List.Perm.cons _ (List.Perm.cons _ (List.Perm.cons _ (List.Perm.cons _ (List.Perm.refl _)))))) (List.Perm.trans (List.Perm.cons _ (List.Perm.cons _ (List.Perm.cons _ (List.Perm.cons _ (List.Perm.cons _ (List.Perm.cons _ (List.Perm.refl _))))))) (List.Perm.trans (List.Perm.cons _ (List.Perm.cons _ (List.Perm.cons _ (List.Perm.cons _ (List.Perm.cons _ (List.Perm.cons _ (List.Perm.cons _ (List.Perm.refl _)))))))) (List.Perm.trans (List.Perm.cons _ (List.Perm.cons _ (List.Perm.cons _ (List.Perm.cons _ (List.Perm.cons _ (List.Perm.cons _ (List.Perm.cons _ (List.Perm.cons _ (List.Perm.refl _))))))))) (List.Perm.cons _ (List.Perm.cons _ (List.Perm.cons _ (List.Perm.cons _ (List.Perm.cons _ (List.Perm.cons _ (List.Perm.cons _ (List.Perm.cons _ (List.Perm.cons _ (List.perm_middle (l₁ := [B9]) (a := B10) (l₂ := [B11, B12, B13, B14, B15, B16, B17, B18, B19, B20, B21, B22, B23, B24, B25, B26, B27, B28, B29, B30, B31, B32, B33, B34, B35, B36, B37])))))))))))))))))))
theorem pr_38_0_1_2_3_4_5_6_7_8_10 (B0 B1 B2 B3 B4 B5 B6 B7 B8 B9 B10 B11 B12 B13 B14 B15 B16 B17 B18 B19 B20 B21 B22 B23 B24 B25 B26 B27 B28 B29 B30 B31 B32 B33 B34 B35 B36 B37 : va_W) : ([B0, B1, B2, B3, B4, B5, B6, B7, B8, B10] ++ [B9, B11, B12, B13, B14, B15, B16, B17, B18, B19, B20, B21, B22, B23, B24, B25, B26, B27, B28, B29, B30, B31, B32, B33, B34, B35, B36, B37]).Perm [B0, B1, B2, B3, B4, B5, B6, B7, B8, B9, B10, B11, B12, B13, B14, B15, B16, B17, B18, B19, B20, B21, B22, B23, B24, B25, B26, B27, B28, B29, B30, B31, B32, B33, B34, B35, B36, B37] := (pm_38_0_1_2_3_4_5_6_7_8_10 B0 B1 B2 B3 B4 B5 B6 B7 B8 B9 B10 B11 B12 B13 B14 B15 B16 B17 B18 B19 B20 B21 B22 B23 B24 B25 B26 B27 B28 B29 B30 B31 B32 B33 B34 B35 B36 B37).symm
theorem pm_38_0_1_2_10 (B0 B1 B2 B3 B4 B5 B6 B7 B8 B9 B10 B11 B12 B13 B14 B15 B16 B17 B18 B19 B20 B21 B22 B23 B24 B25 B26 B27 B28 B29 B30 B31 B32 B33 B34 B35 B36 B37 : va_W) : [B0, B1, B2, B3, B4, B5, B6, B7, B8, B9, B10, B11, B12, B13, B14, B15, B16, B17, B18, B19, B20, B21, B22, B23, B24, B25, B26, B27, B28, B29, B30, B31, B32, B33, B34, B35, B36, B37].Perm ([B0, B1, B2, B10] ++ [B3, B4, B5, B6, B7, B8, B9, B11, B12, B13, B14, B15, B16, B17, B18, B19, B20, B21, B22, B23, B24, B25, B26, B27, B28, B29, B30, B31, B32, B33, B34, B35, B36, B37]) := List.Perm.trans (List.Perm.refl _) (List.Perm.trans (List.Perm.cons _ (List.Perm.refl _)) (List.Perm.trans (List.Perm.cons _ (List.Perm.cons _ (List.Perm.refl _))) (List.Perm.cons _ (List.Perm.cons _ (List.Perm.cons _ (List.perm_middle (l₁ := [B3, B4, B5, B6, B7, B8, B9]) (a := B10) (l₂ := [B11, B12, B13, B14, B15, B16, B17, B18, B19, B20, B21, B22, B23, B24, B25, B26, B27, B28, B29, B30, B31, B32, B33, B34, B35, B36, B37])))))))
theorem pr_38_0_1_2_10 (B0 B1 B2 B3 B4 B5 B6 B7 B8 B9 B10 B11 B12 B13 B14 B15 B16 B17 B18 B19 B20 B21 B22 B23 B24 B25 B26 B27 B28 B29 B30 B31 B32 B33 B34 B35 B36 B37 : va_W) : ([B0, B1, B2, B10] ++ [B3, B4, B5, B6, B7, B8, B9, B11, B12, B13, B14, B15, B16, B17, B18, B19, B20, B21, B22, B23, B24, B25, B26, B27, B28, B29, B30, B31, B32, B33, B34, B35, B36, B37]).Perm [B0, B1, B2, B3, B4, B5, B6, B7, B8, B9, B10, B11, B12, B13, B14, B15, B16, B17, B18, B19, B20, B21, B22, B23, B24, B25, B26, B27, B28, B29, B30, B31, B32, B33, B34, B35, B36, B37] := (pm_38_0_1_2_10 B0 B1 B2 B3 B4 B5 B6 B7 B8 B9 B10 B11 B12 B13 B14 B15 B16 B17 B18 B19 B20 B21 B22 B23 B24 B25 B26 B27 B28 B29 B30 B31 B32 B33 B34 B35 B36 B37).symm
theorem pm_38_0_1_3_4_5_6_7_8_9_10 (B0 B1 B2 B3 B4 B5 B6 B7 B8 B9 B10 B11 B12 B13 B14 B15 B16 B17 B18 B19 B20 B21 B22 B23 B24 B25 B26 B27 B28 B29 B30 B31 B32 B33 B34 B35 B36 B37 : va_W) : [B0, B1, B2, B3, B4, B5, B6, B7, B8, B9, B10, B11, B12, B13, B14, B15, B16, B17, B18, B19, B20, B21, B22, B23, B24, B25, B26, B27, B28, B29, B30, B31, B32, B33, B34, B35, B36, B37].Perm ([B0, B1, B3, B4, B5, B6, B7, B8, B9, B10] ++ [B2, B11, B12, B13, B14, B15, B16, B17, B18, B19, B20, B21, B22, B23, B24, B25, B26, B27, B28, B29, B30, B31, B32, B33, B34, B35, B36, B37]) := List.Perm.trans (List.Perm.refl _) (List.Perm.trans (List.Perm.cons _ (List.Perm.refl _)) (List.Perm.trans (List.Perm.cons _ (List.Perm.cons _ (List.perm_middle (l₁ := [B2]) (a := B3) (l₂ := [B4, B5, B6, B7, B8, B9, B10, B11, B12, B13, B14, B15, B16, B17, B18, B19, B20, B21, B22, B23, B24, B25, B26, B27, B28, B29, B30, B31, B32, B33, B34, B35, B36, B37])))) (List.Perm.trans (List.Perm.cons _ (List.Perm.cons _ (List.Perm.cons _ (List.perm_middle (l₁ := [B2]) (a := B4) (l₂ := [B5, B6, B7, B8, B9, B10, B11, B12, B13, B14, B15, B16, B17, B18, B19, B20, B21, B22, B23, B24, B25, B26, B27, B28, B29, B30, B31, B32, B33, B34, B35, B36, B37]))))) (List.Perm.trans (List.Perm.cons _ (List.Perm.cons _ (List.Perm.cons _ (List.Perm.cons _ (List.perm_middle (l₁ := [B2]) (a := B5) (l₂ := [B6, B7, B8, B9, B10, B11, B12, B13, B14, B15, B16, B17, B18, B19, B20, B21, B22, B23, B24, B25, B26, B27, B28, B29, B30, B31, B32, B33, B34, B35, B36, B37])))))) (List.Perm.trans (List.Perm.cons _ (List.Perm.cons _ (List.Perm.cons _ (List.Perm.cons _ (List.Perm.cons _ (List.perm_middle (l₁ := [B2]) (a := B6) (l₂ := [B7, B8, B9, B10, B11, B12, B13, B14, B15, B16, B17, B18, B19, B20, B21, B22, B23, B24, B25, B26, B27, B28, B29, B30, B31, B32, B33, B34, B35, B36, B37]))))))) (List.Perm.trans (List.Perm.cons _ (List.Perm.cons _ (List.Perm.cons _ (List.Perm.cons _ (List.Perm.cons _ (List.Perm.cons _ (List.perm_middle (l₁ := [B2]) (a := B7) (l₂ := [B8, B9, B10, B11, B12, B13, B14, B15, B16, B17, B18, B19, B20, B21, B22, B23, B24, B25, B26, B27, B28, B29, B30, B31, B32, B33, B34, B35, B36, B37])))))))) (List.Perm.trans (List.Perm.cons _ (List.Perm.cons _ (List.Perm.cons _ (List.Perm.cons _ (List.Perm.cons _ (List.Perm.cons _ (List.Perm.cons _ (List.perm_middle (l₁ := [B2]) (a := B8) (l₂ := [B9, B10, B11, B12, B13, B14, B15, B16, B17, B18, B19, B20, B21, B22, B23, B24, B25, B26, B27, B28, B29, B30, B31, B32, B33, B34, B35, B36, B37]))))))))) (List.Perm.trans (List.Perm.cons _ (List.Perm.cons _ (List.Perm.cons _ (List.Perm.cons _ (List.Perm.cons _ (List.Perm.cons _ (List.Perm.cons _ (List.Perm.cons _ (List.perm_middle (l₁ := [B2]) (a := B9) (l₂ := [B10, B11, B12, B13, B14, B15, B16, B17, B18, B19, B20, B21, B22, B23, B24, B25, B26, B27, B28, B29, B30, B31, B32, B33, B34, B35, B36, B37])))))))))) (List.Perm.cons _ (List.Perm.cons _ (List.Perm.cons _ (List.Perm.cons _ (List.Perm.cons _ (List.Perm.cons _ (List.Perm.cons _ (List.Perm.cons _ (List.Perm.cons _ (List.perm_middle (l₁ := [B2]) (a := B10) (l₂ := [B11, B12, B13, B14, B15, B16, B17, B18, B19, B20, B21, B22, B23, B24, B25, B26, B27, B28, B29, B30, B31, B32, B33, B34, B35, B36, B37])))))))))))))))))))
theorem pr_38_0_1_3_4_5_6_7_8_9_10 (B0 B1 B2 B3 B4 B5 B6 B7 B8 B9 B10 B11 B12 B13 B14 B15 B16 B17 B18 B19 B20 B21 B22 B23 B24 B25 B26 B27 B28 B29 B30 B31 B32 B33 B34 B35 B36 B37 : va_W) : ([B0, B1, B3, B4, B5, B6, B7, B8, B9, B10] ++ [B2, B11, B12, B13, B14, B15, B16, B17, B18, B19, B20, B21, B22, B23, B24, B25, B26, B27, B28, B29, B30, B31, B32, B33, B34, B35, B36, B37]).Perm [B0, B1, B2, B3, B4, B5, B6, B7, B8, B9, B10, B11, B12, B13, B14, B15, B16, B17, B18, B19, B20, B21, B22, B23, B24, B25, B26, B27, B28, B29, B30, B31, B32, B33, B34, B35, B36, B37] := (pm_38_0_1_3_4_5_6_7_8_9_10 B0 B1 B2 B3 B4 B5 B6 B7 B8 B9 B10 B11 B12 B13 B14 B15 B16 B17 B18 B19 B20 B21 B22 B23 B24 B25 B26 B27 B28 B29 B30 B31 B32 B33 B34 B35 B36 B37).symm
theorem pm_38_0_1_3_4_5_6_7_8_10 (B0 B1 B2 B3 B4 B5 B6 B7 B8 B9 B10 B11 B12 B13 B14 B15 B16 B17 B18 B19 B20 B21 B22 B23 B24 B25 B26 B27 B28 B29 B30 B31 B32 B33 B34 B35 B36 B37 : va_W) : [B0, B1, B2, B3, B4, B5, B6, B7, B8, B9, B10, B11, B12, B13, B14, B15, B16, B17, B18, B19, B20, B21, B22, B23, B24, B25, B26, B27, B28, B29, B30, B31, B32, B33, B34, B35, B36, B37].Perm ([B0, B1, B3, B4, B5, B6, B7, B8, B10] ++ [B2, B9, B11, B12, B13, B14, B15, B16, B17, B18, B19, B20, B21, B22, B23, B24, B25, B26, B27, B28, B29, B30, B31, B32, B33, B34, B35, B36, B37]) := List.Perm.trans (List.Perm.refl _) (List.Perm.trans (List.Perm.cons _ (List.Perm.refl _)) (List.Perm.trans (List.Perm.cons _ (List.Perm.cons _ (List.perm_middle (l₁ := [B2]) (a := B3) (l₂ := [B4, B5, B6, B7, B8, B9, B10, B11, B12, B13, B14, B15, B16, B17, B18, B19, B20, B21, B22, B23, B24, B25, B26, B27, B28, B29, B30, B31, B32, B33, B34, B35, B36, B37])))) (List.Perm.trans (List.Perm.cons _ (List.Perm.cons _ (List.Perm.cons _ (List.perm_middle (l₁ := [B2]) (a := B4) (l₂ := [B5, B6, B7, B8, B9, B10, B11, B12, B13, B14, B15, B16, B17, B18, B19, B20, B21, B22, B23, B24, B25, B26, B27, B28, B29, B30, B31, B32, B33, B34, B35, B36, B37]))))) (List.Perm.trans (List.Perm.cons _ (List.Perm.cons _ (List.Perm.cons _ (List.Perm.cons _ (List.perm_middle (l₁ := [B2]) (a := B5) (l₂ := [B6, B7, B8, B9, B10, B11, B12, B13, B14, B15, B16, B17, B18, B19, B20, B21, B22, B23, B24, B25, B26, B27, B28, B29, B30, B31, B32, B33, B34, B35, B36, B37])))))) (List.Perm.trans (List.Perm.cons _ (List.Perm.cons _ (List.Perm.cons _ (List.Perm.cons _ (List.Perm.cons _ (List.perm_middle (l₁ := [B2]) (a := B6) (l₂ := [B7, B8, B9, B10, B11, B12, B13, B14, B15, B16, B17, B18, B19, B20, B21, B22, B23, B24, B25, B26, B27, B28, B29, B30, B31, B32, B33, B34, B35, B36, B37]))))))) (List.Perm.trans (List.Perm.cons _ (List.Perm.cons _ (List.Perm.cons _ (List.Perm.cons _ (List.Perm.cons _ (List.Perm.cons _ (List.perm_middle (l₁ := [B2]) (a := B7) (l₂ := [B8, B9, B10, B11, B12, B13, B14, B15, B16, B17, B18, B19, B20, B21, B22, B23, B24, B25, B26, B27, B28, B29, B30, B31, B32, B33, B34, B35, B36, B37])))))))) (List.Perm.trans (List.Perm.cons _ (List.Perm.cons _ (List.Perm.cons _ (List.Perm.cons _ (List.Perm.cons _ (List.Perm.cons _ (List.Perm.cons _ (List.perm_middle (l₁ := [B2]) (a := B8) (l₂ := [B9, B10, B11, B12, B13, B14, B15, B16, B17, B18, B19, B20, B21, B22, B23, B24, B25, B26, B27, B28, B29, B30, B31, B32, B33, B34, B35, B36, B37]))))))))) (List.Perm.cons _ (List.Perm.cons _ (List.Perm.cons _ (List.Perm.cons _ (List.Perm.cons _ (List.Perm.cons _ (List.Perm.cons _ (List.Perm.cons _ (List.perm_middle (l₁ := [B2, B9]) (a := B10) (l₂ := [B11, B12, B13, B14, B15, B16, B17, B18, B19, B20, B21, B22, B23, B24, B25, B26, B27, B28, B29, B30, B31, B32, B33, B34, B35, B36, B37])))))))))))))))))
theorem pr_38_0_1_3_4_5_6_7_8_10 (B0 B1 B2 B3 B4 B5 B6 B7 B8 B9 B10 B11 B12 B13 B14 B15 B16 B17 B18 B19 B20 B21 B22 B23 B24 B25 B26 B27 B28 B29 B30 B31 B32 B33 B34 B35 B36 B37 : va_W) : ([B0, B1, B3, B4, B5, B6, B7, B8, B10] ++ [B2, B9, B11, B12, B13, B14, B15, B16, B17, B18, B19, B20, B21, B22, B23, B24, B25, B26, B27, B28, B29, B30, B31, B32, B33, B34, B35, B36, B37]).Perm [B0, B1, B2, B3, B4, B5, B6, B7, B8, B9, B10, B11, B12, B13, B14, B15, B16, B17, B18, B19, B20, B21, B22, B23, B24, B25, B26, B27, B28, B29, B30, B31, B32, B33, B34, B35, B36, B37] := (pm_38_0_1_3_4_5_6_7_8_10 B0 B1 B2 B3 B4 B5 B6 B7 B8 B9 B10 B11 B12 B13 B14 B15 B16 B17 B18 B19 B20 B21 B22 B23 B24 B25 B26 B27 B28 B29 B30 B31 B32 B33 B34 B35 B36 B37).symm
theorem pm_38_0_1_10 (B0 B1 B2 B3 B4 B5 B6 B7 B8 B9 B10 B11 B12 B13 B14 B15 B16 B17 B18 B19 B20 B21 B22 B23 B24 B25 B26 B27 B28 B29 B30 B31 B32 B33 B34 B35 B36 B37 : va_W) : [B0, B1, B2, B3, B4, B5, B6, B7, B8, B9, B10, B11, B12, B13, B14, B15, B16, B17, B18, B19, B20, B21, B22, B23, B24, B25, B26, B27, B28, B29, B30, B31, B32, B33, B34, B35, B36, B37].Perm ([B0, B1, B10] ++ [B2, B3, B4, B5, B6, B7, B8, B9, B11, B12, B13, B14, B15, B16, B17, B18, B19, B20, B21, B22, B23, B24, B25, B26, B27, B28, B29, B30, B31, B32, B33, B34, B35, B36, B37]) := List.Perm.trans (List.Perm.refl _) (List.Perm.trans (List.Perm.cons _ (List.Perm.refl _)) (List.Perm.cons _ (List.Perm.cons _ (List.perm_middle (l₁ := [B2, B3, B4, B5, B6, B7, B8, B9]) (a := B10) (l₂ := [B11, B12, B13, B14, B15, B16, B17, B18, B19, B20, B21, B22, B23, B24, B25, B26, B27, B28, B29, B30, B31, B32, B33, B34, B35, B36, B37])))))
theorem pr_38_0_1_10 (B0 B1 B2 B3 B4 B5 B6 B7 B8 B9 B10 B11 B12 B13 B14 B15 B16 B17 B18 B19 B20 B21 B22 B23 B24 B25 B26 B27 B28 B29 B30 B31 B32 B33 B34 B35 B36 B37 : va_W) : ([B0, B1, B10] ++ [B2, B3, B4, B5, B6, B7, B8, B9, B11, B12, B13, B14, B15, B16, B17, B18, B19, B20, B21, B22, B23, B24, B25, B26, B27, B28, B29, B30, B31, B32, B33, B34, B35, B36, B37]).Perm [B0, B1, B2, B3, B4, B5, B6, B7, B8, B9, B10, B11, B12, B13, B14, B15, B16, B17, B18, B19, B20, B21, B22, B23, B24, B25, B26, B27, B28, B29, B30, B31, B32, B33, B34, B35, B36, B37] := (pm_38_0_1_10 B0 B1 B2 B3 B4 B5 B6 B7 B8 B9 B10 B11 B12 B13 B14 B15 B16 B17 B18 B19 B20 B21 B22 B23 B24 B25 B26 B27 B28 B29 B30 B31 B32 B33 B34 B35 B36 B37).symm
theorem pm_38_0_1_17_18 (B0 B1 B2 B3 B4 B5 B6 B7 B8 B9 B10 B11 B12 B13 B14 B15 B16 B17 B18 B19 B20 B21 B22 B23 B24 B25 B26 B27 B28 B29 B30 B31 B32 B33 B34 B35 B36 B37 : va_W) : [B0, B1, B2, B3, B4, B5, B6, B7, B8, B9, B10, B11, B12, B13, B14, B15, B16, B17, B18, B19, B20, B21, B22, B23, B24, B25, B26, B27, B28, B29, B30, B31, B32, B33, B34, B35, B36, B37].Perm ([B0, B1, B17, B18] ++ [B2, B3, B4, B5, B6, B7, B8, B9, B10, B11, B12, B13, B14, B15, B16, B19, B20, B21, B22, B23, B24, B25, B26, B27, B28, B29, B30, B31, B32, B33, B34, B35, B36, B37]) := List.Perm.trans (List.Perm.refl _) (List.Perm.trans (List.Perm.cons _ (List.Perm.refl _)) (List.Perm.trans (List.Perm.cons _ (List.Perm.cons _ (List.perm_middle (l₁ := [B2, B3, B4, B5, B6, B7, B8, B9, B10, B11, B12, B13, B14, B15, B16]) (a := B17) (l₂ := [B18, B19, B20, B21, B22, B23, B24, B25, B26, B27, B28, B29, B30, B31, B32, B33, B34, B35, B36, B37])))) (List.Perm.cons _ (List.Perm.cons _ (List.Perm.cons _ (List.perm_middle (l₁ := [B2, B3, B4, B5, B6, B7, B8, B9, B10, B11, B12, B13, B14, B15, B16]) (a := B18) (l₂ := [B19, B20, B21, B22, B23, B24, B25, B26, B27, B28, B29, B30, B31, B32, B33, B34, B35, B36, B37])))))))
theorem pr_38_0_1_17_18 (B0 B1 B2 B3 B4 B5 B6 B7 B8 B9 B10 B11 B12 B13 B14 B15 B16 B17 B18 B19 B20 B21 B22 B23 B24 B25 B26 B27 B28 B29 B30 B31 B32 B33 B34 B35 B36 B37 : va_W) : ([B0, B1, B17, B18] ++ [B2, B3, B4, B5, B6, B7, B8, B9, B10, B11, B12, B13, B14, B15, B16, B19, B20, B21, B22, B23, B24, B25, B26, B27, B28, B29, B30, B31, B32, B33, B34, B35, B36, B37]).Perm [B0, B1, B2, B3, B4, B5, B6, B7, B8, B9, B10, B11, B12, B13, B14, B15, B16, B17, B18, B19, B20, B21, B22, B23, B24, B25, B26, B27, B28, B29, B30, B31, B32, B33, B34, B35, B36, B37] := (pm_38_0_1_17_18 B0 B1 B2 B3 B4 B5 B6 B7 B8 B9 B10 B11 B12 B13 B14 B15 B16 B17 B18 B19 B20 B21 B22 B23 B24 B25 B26 B27 B28 B29 B30 B31 B32 B33 B34 B35 B36 B37).symm
theorem pm_38_1_2_3_4_5_6_7_8_10 (B0 B1 B2 B3 B4 B5 B6 B7 B8 B9 B10 B11 B12 B13 B14 B15 B16 B17 B18 B19 B20 B21 B22 B23 B24 B25 B26 B27 B28 B29 B30 B31 B32 B33 B34 B35 B36 B37 : va_W) : [B0, B1, B2, B3, B4, B5, B6, B7, B8, B9, B10, B11, B12, B13, B14, B15, B16, B17, B18, B19, B20, B21, B22, B23, B24, B25, B26, B27, B28, B29, B30, B31, B32, B33, B34, B35, B36, B37].Perm ([B1, B2, B3, B4, B5, B6, B7, B8, B10] ++ [B0, B9, B11, B12, B13, B14, B15, B16, B17, B18, B19, B20, B21, B22, B23, B24, B25, B26, B27, B28, B29, B30, B31, B32, B33, B34, B35, B36, B37]) := List.Perm.trans (List.perm_middle (l₁ := [B0]) (a := B1) (l₂ := [B2, B3, B4, B5, B6, B7, B8, B9, B10, B11, B12, B13, B14, B15, B16, B17, B18, B19, B20, B21, B22, B23, B24, B25, B26, B27, B28, B29, B30, B31, B32, B33, B34, B35, B36, B37])) (List.Perm.trans (List.Perm.cons _ (List.perm_middle (l₁ := [B0]) (a := B2) (l₂ := [B3, B4, B5, B6, B7, B8, B9, B10, B11, B12, B13, B14, B15, B16, B17, B18, B19, B20, B21, B22, B23, B24, B25, B26, B27, B28, B29, B30, B31, B32, B33, B34, B35, B36, B37]))) (List.Perm.trans (List.Perm.cons _ (List.Perm.cons _ (List.perm_middle (l₁ := [B0]) (a := B3) (l₂ := [B4, B5, B6, B7, B8, B9, B10, B11, B12, B13, B14, B15, B16, B17, B18, B19, B20, B21, B22, B23, B24, B25, B26, B27, B28, B29, B30, B31, B32, B33, B34, B35, B36, B37])))) (List.Perm.trans (List.Perm.cons _ (List.Perm.cons _ (List.Perm.cons _ (List.perm_middle (l₁ := [B0]) (a := B4) (l₂ := [B5, B6, B7, B8, B9, B10, B11, B12, B13, B14, B15, B16, B17, B18, B19, B20, B21, B22, B23, B24, B25, B26, B27, B28, B29, B30, B31, B32, B33, B34, B35, B36, B37]))))) (List.Perm.trans (List.Perm.cons _ (List.Perm.cons _ (List.Perm.cons _ (List.Perm.cons _ (List.perm_middle (l₁ := [B0]) (a := B5) (l₂ := [B6, B7, B8, B9, B10, B11, B12, B13, B14, B15, B16, B17, B18, B19, B20, B21, B22, B23, B24, B25, B26, B27, B28, B29, B30, B31, B32, B33, B34, B35, B36, B37])))))) (List.Perm.trans (List.Perm.cons _ (List.Perm.cons _ (List.Perm.cons _ (List.Perm.cons _ (List.Perm.cons _ (List.perm_middle (l₁ := [B0]) (a := B6) (l₂ := [B7, B8, B9, B10, B11, B12, B13, B14, B15, B16, B17, B18, B19, B20, B21, B22, B23, B24, B25, B26, B27, B28, B29, B30, B31, B32, B33, B34, B35, B36, B37]))))))) (List.Perm.trans (List.Perm.cons _ (List.Perm.cons _ (List.Perm.cons _ (List.Perm.cons _ (List.Perm.cons _ (List.Perm.cons _ (List.perm_middle (l₁ := [B0]) (a := B7) (l₂ := [B8, B9, B10, B11, B12, B13, B14, B15, B16, B17, B18, B19, B20, B21, B22, B23, B24, B25, B26, B27, B28, B29, B30, B31, B32, B33, B34, B35, B36, B37])))))))) (List.Perm.trans (List.Perm.cons _ (List.Perm.cons _ (List.Perm.cons _ (List.Perm.cons _ (List.Perm.cons _ (List.Perm.cons _ (List.Perm.cons _ (List.perm_middle (l₁ := [B0]) (a := B8) (l₂ := [B9, B10, B11, B12, B13, B14, B15, B16, B17, B18, B19, B20, B21, B22, B23, B24, B25, B26, B27, B28, B29, B30, B31, B32, B33, B34, B35, B36, B37]))))))))) (List.Perm.cons _ (List.Perm.cons _ (List.Perm.cons _ (List.Perm.cons _ (List.Perm.cons _ (List.Perm.cons _ (List.Perm.cons _ (List.Perm.cons _ (List.perm_middle (l₁ := [B0, B9]) (a := B10) (l₂ := [B11, B12, B13, B14, B15, B16, B17, B18, B19, B20, B21, B22, B23, B24, B25, B26, B27, B28, B29, B30, B31, B32, B33, B34, B35, B36, B37])))))))))))))))))
theorem pr_38_1_2_3_4_5_6_7_8_10 (B0 B1 B2 B3 B4 B5 B6 B7 B8 B9 B10 B11 B12 B13 B14 B15 B16 B17 B18 B19 B20 B21 B22 B23 B24 B25 B26 B27 B28 B29 B30 B31 B32 B33 B34 B35 B36 B37 : va_W) : ([B1, B2, B3, B4, B5, B6, B7, B8, B10] ++ [B0, B9, B11, B12, B13, B14, B15, B16, B17, B18, B19, B20, B21, B22, B23, B24, B25, B26, B27, B28, B29, B30, B31, B32, B33, B34, B35, B36, B37]).Perm [B0, B1, B2, B3, B4, B5, B6, B7, B8, B9, B10, B11, B12, B13, B14, B15, B16, B17, B18, B19, B20, B21, B22, B23, B24, B25, B26, B27, B28, B29, B30, B31, B32, B33, B34, B35, B36, B37] := (pm_38_1_2_3_4_5_6_7_8_10 B0 B1 B2 B3 B4 B5 B6 B7 B8 B9 B10 B11 B12 B13 B14 B15 B16 B17 B18 B19 B20 B21 B22 B23 B24 B25 B26 B27 B28 B29 B30 B31 B32 B33 B34 B35 B36 B37).symm
theorem pm_38_1_2_3_4_5_6_7_8_10_17_18 (B0 B1 B2 B3 B4 B5 B6 B7 B8 B9 B10 B11 B12 B13 B14 B15 B16 B17 B18 B19 B20 B21 B22 B23 B24 B25 B26 B27 B28 B29 B30 B31 B32 B33 B34 B35 B36 B37 : va_W) : [B0, B1, B2, B3, B4, B5, B6, B7, B8, B9, B10, B11, B12, B13, B14, B15, B16, B17, B18, B19, B20, B21, B22, B23, B24, B25, B26, B27, B28, B29, B30, B31, B32, B33, B34, B35, B36, B37].Perm ([B1, B2, B3, B4, B5, B6, B7, B8, B10, B17, B18] ++ [B0, B9, B11, B12, B13, B14, B15, B16, B19, B20, B21, B22, B23, B24, B25, B26, B27, B28, B29, B30, B31, B32, B33, B34, B35, B36, B37]) := List.Perm.trans (List.perm_middle (l₁ := [B0]) (a := B1) (l₂ := [B2, B3, B4, B5, B6, B7, B8, B9, B10, B11, B12, B13, B14, B15, B16, B17, B18, B19, B20, B21, B22, B23, B24, B25, B26, B27, B28, B29, B30, B31, B32, B33, B34, B35, B36, B37])) (List.Perm.trans (List.Perm.cons _ (List.perm_middle (l₁ := [B0]) (a := B2) (l₂ := [B3, B4, B5, B6, B7, B8, B9, B10, B11, B12, B13, B14, B15, B16, B17, B18, B19, B20, B21, B22, B23, B24, B25, B26, B27, B28, B29, B30, B31, B32, B33, B34, B35, B36, B37]))) (List.Perm.trans (List.Perm.cons _ (List.Perm.cons _ (List.perm_middle (l₁ := [B0]) (a := B3) (l₂ := [B4, B5, B6, B7, B8, B9, B10, B11, B12, B13, B14, B15, B16, B17, B18, B19, B20, B21, B22, B23, B24, B25, B26, B27, B28, B29, B30, B31, B32, B33, B34, B35, B36, B37])))) (List.Perm.trans (List.Perm.cons _ (List.Perm.cons _ (List.Perm.cons _ (List.perm_middle (l₁ := [B0]) (a := B4) (l₂ := [B5, B6, B7, B8, B9, B10, B11, B12, B13, B14, B15, B16, B17, B18, B19, B20, B21, B22, B23, B24, B25, B26, B27, B28, B29, B30, B31, B32, B33, B34, B35, B36, B37]))))) (List.Perm.trans (List.Perm.cons _ (List.Perm.cons _ (List.Perm.cons _ (List.Perm.cons _ (List.perm_middle (l₁ := [B0]) (a := B5) (l₂ := [B6, B7, B8, B9, B10, B11, B12, B13, B14, B15, B16, B17, B18, B19, B20, B21, B22, B23, B24, B25, B26, B27, B28, B29, B30, B31, B32, B33, B34, B35, B36, B37])))))) (List.Perm.trans (List.Perm.cons _ (List.Perm.cons _ (List.Perm.cons _ (List.Perm.cons _ (List.Perm.cons _ (List.perm_middle (l₁ := [B0]) (a := B6) (l₂ := [B7, B8, B9, B10, B11, B12, B13, B14, B15, B16, B17, B18, B19, B20, B21, B22, B23, B24, B25, B26, B27, B28, B29, B30, B31, B32, B33, B34, B35, B36, B37]))))))) (List.Perm.trans (List.Perm.cons _ (List.Perm.cons _ (List.Perm.cons _ (List.Perm.cons _ (List.Perm.cons _ (List.Perm.cons _ (List.perm_middle (l₁ := [B0]) (a := B7) (l₂ := [B8, B9, B10, B11, B12, B13, B14, B15, B16, B17, B18, B19, B20, B21, B22, B23, B24, B25, B26, B27, B28, B29, B30, B31, B32, B33, B34, B35, B36, B37])))))))) (List.Perm.trans (List.Perm.cons _ (List.Perm.cons _ (List.Perm.cons _ (List.Perm.cons _ (List.Perm.cons _ (List.Perm.cons _ (List.Perm.cons _ (List.perm_middle (l₁ := [B0]) (a := B8) (l₂ := [B9, B10, B11, B12, B13, B14, B15, B16, B17, B18, B19, B20, B21, B22, B23, B24, B25, B26, B27, B28, B29, B30, B31, B32, B33, B34, B35, B36, B37]))))))))) (List.Perm.trans (List.Perm.cons _ (List.Perm.cons _ (List.Perm.cons _ (List.Perm.cons _ (List.Perm.cons _ (List.Perm.cons _ (List.Perm.cons _ (List.Perm.cons _ (List.perm_middle (l₁ := [B0, B9]) (a := B10) (l₂ := [B11, B12, B13, B14, B15, B16, B17, B18, B19, B20, B21, B22, B23, B24, B25, B26, B27, B28, B29, B30, B31, B32, B33, B34, B35, B36, B37])))))))))) (List.Perm.trans (List.Perm.cons _ (List.Perm.cons _ (List.Perm.cons _ (List.Perm.cons _ (List.Perm.cons _ (List.Perm.cons _ (List.Perm.cons _ (List.Perm.cons _ (List.Perm.cons _ (List.perm_middle (l₁ := [B0, B9, B11, B12, B13, B14, B15, B16]) (a := B17) (l₂ := [B18, B19, B20, B21, B22, B23, B24, B25, B26, B27, B28, B29, B30, B31, B32, B33, B34, B35, B36, B37]))))))))))) (List.Perm.cons _ (List.Perm.cons _ (List.Perm.cons _ (List.Perm.cons _ (List.Perm.cons _ (List.Perm.cons _ (List.Perm.cons _ (List.Perm.cons _ (List.Perm.cons _ (List.Perm.cons _ (List.perm_middle (l₁ := [B0, B9, B11, B12, B13, B14, B15, B16]) (a := B18) (l₂ := [B19, B20, B21, B22, B23, B24, B25, B26, B27, B28, B29, B30, B31, B32, B33, B34, B35, B36, B37])))))))))))))))))))))
theorem pr_38_1_2_3_4_5_6_7_8_10_17_18 (B0 B1 B2 B3 B4 B5 B6 B7 B8 B9 B10 B11 B12 B13 B14 B15 B16 B17 B18 B19 B20 B21 B22 B23 B24 B25 B26 B27 B28 B29 B30 B31 B32 B33 B34 B35 B36 B37 : va_W) : ([B1, B2, B3, B4, B5, B6, B7, B8, B10, B17, B18] ++ [B0, B9, B11, B12, B13, B14, B15, B16, B19, B20, B21, B22, B23, B24, B25, B26, B27, B28, B29, B30, B31, B32, B33, B34, B35, B36, B37]).Perm [B0, B1, B2, B3, B4, B5, B6, B7, B8, B9, B10, B11, B12, B13, B14, B15, B16, B17, B18, B19, B20, B21, B22, B23, B24, B25, B26, B27, B28, B29, B30, B31, B32, B33, B34, B35, B36, B37] := (pm_38_1_2_3_4_5_6_7_8_10_17_18 B0 B1 B2 B3 B4 B5 B6 B7 B8 B9 B10 B11 B12 B13 B14 B15 B16 B17 B18 B19 B20 B21 B22 B23 B24 B25 B26 B27 B28 B29 B30 B31 B32 B33 B34 B35 B36 B37).symm
theorem pm_38_1_3_4_5_6_7_8_9_10 (B0 B1 B2 B3 B4 B5 B6 B7 B8 B9 B10 B11 B12 B13 B14 B15 B16 B17 B18 B19 B20 B21 B22 B23 B24 B25 B26 B27 B28 B29 B30 B31 B32 B33 B34 B35 B36 B37 : va_W) : [B0, B1, B2, B3, B4, B5, B6, B7, B8, B9, B10, B11, B12, B13, B14, B15, B16, B17, B18, B19, B20, B21, B22, B23, B24, B25, B26, B27, B28, B29, B30, B31, B32, B33, B34, B35, B36, B37].Perm ([B1, B3, B4, B5, B6, B7, B8, B9, B10] ++ [B0, B2, B11, B12, B13, B14, B15, B16, B17, B18, B19, B20, B21, B22, B23, B24, B25, B26, B27, B28, B29, B30, B31, B32, B33, B34, B35, B36, B37]) := List.Perm.trans (List.perm_middle (l₁ := [B0]) (a := B1) (l₂ := [B2, B3, B4, B5, B6, B7, B8, B9, B10, B11, B12, B13, B14, B15, B16, B17, B18, B19, B20, B21, B22, B23, B24, B25, B26, B27, B28, B29, B30, B31, B32, B33, B34, B35, B36, B37])) (List.Perm.trans (List.Perm.cons _ (List.perm_middle (l₁ := [B0, B2]) (a := B3) (l₂ := [B4, B5, B6, B7, B8, B9, B10, B11, B12, B13, B14, B15, B16, B17, B18, B19, B20, B21, B22, B23, B24, B25, B26, B27, B28, B29, B30, B31, B32, B33, B34, B35, B36, B37]))) (List.Perm.trans (List.Perm.cons _ (List.Perm.cons _ (List.perm_middle (l₁ := [B0, B2]) (a := B4) (l₂ := [B5, B6, B7, B8, B9, B10, B11, B12, B13, B14, B15, B16, B17, B18, B19, B20, B21, B22, B23, B24, B25, B26, B27, B28, B29, B30, B31, B32, B33, B34, B35, B36, B37])))) (List.Perm.trans (List.Perm.cons _ (List.Perm.cons _ (List.Perm.cons _ (List.perm_middle (l₁ := [B0, B2]) (a := B5) (l₂ := [B6, B7, B8, B9, B10, B11, B12, B13, B14, B15, B16, B17, B18, B19, B20, B21, B22, B23, B24, B25, B26, B27, B28, B29, B30, B31, B32, B33, B34, B35, B36, B37]))))) (List.Perm.trans (List.Perm.cons _ (List.Perm.cons _ (List.Perm.cons _ (List.Perm.cons _ (List.perm_middle (l₁ := [B0, B2]) (a := B6) (l₂ := [B7, B8, B9, B10, B11, B12, B13, B14, B15, B16, B17, B18, B19, B20, B21, B22, B23, B24, B25, B26, B27, B28, B29, B30, B31, B32, B33, B34, B35, B36, B37])))))) (List.Perm.trans (List.Perm.cons _ (List.Perm.cons _ (List.Perm.cons _ (List.Perm.cons _ (List.Perm.cons _ (List.perm_middle (l₁ := [B0, B2]) (a := B7) (l₂ := [B8, B9, B10, B11, B12, B13, B14, B15, B16, B17, B18, B19, B20, B21, B22, B23, B24, B25, B26, B27, B28, B29, B30, B31, B32, B33, B34, B35, B36, B37]))))))) (List.Perm.trans (List.Perm.cons _ (List.Perm.cons _ (List.Perm.cons _ (List.Perm.cons _ (List.Perm.cons _ (List.Perm.cons _ (List.perm_middle (l₁ := [B0, B2]) (a := B8) (l₂ := [B9, B10, B11, B12, B13, B14, B15, B16, B17, B18, B19, B20, B21, B22, B23, B24, B25, B26, B27, B28, B29, B30, B31, B32, B33, B34, B35, B36, B37])))))))) (List.Perm.trans (List.Perm.cons _ (List.Perm.cons _ (List.Perm.cons _ (List.Perm.cons _ (List.Perm.cons _ (List.Perm.cons _ (List.Perm.cons _ (List.perm_middle (l₁ := [B0, B2]) (a := B9) (l₂ := [B10, B11, B12, B13, B14, B15, B16, B17, B18, B19, B20, B21, B22, B23, B24, B25, B26, B27, B28, B29, B30, B31, B32, B33, B34, B35, B36, B37]))))))))) (List.Perm.cons _ (List.Perm.cons _ (List.Perm.cons _ (List.Perm.cons _ (List.Perm.cons _ (List.Perm.cons _ (List.Perm.cons _ (List.Perm.cons _ (List.perm_middle (l₁ := [B0, B2]) (a := B10) (l₂ := [B11, B12, B13, B14, B15, B16, B17, B18, B19, B20, B21, B22, B23, B24, B25, B26, B27, B28, B29, B30, B31, B32, B33, B34, B35, B36, B37])))))))))))))))))
theorem pr_38_1_3_4_5_6_7_8_9_10 (B0 B1 B2 B3 B4 B5 B6 B7 B8 B9 B10 B11 B12 B13 B14 B15 B16 B17 B18 B19 B20 B21 B22 B23 B24 B25 B26 B27 B28 B29 B30 B31 B32 B33 B34 B35 B36 B37 : va_W) : ([B1, B3, B4, B5, B6, B7, B8, B9, B10] ++ [B0, B2, B11, B12, B13, B14, B15, B16, B17, B18, B19, B20, B21, B22, B23, B24, B25, B26, B27, B28, B29, B30, B31, B32, B33, B34, B35, B36, B37]).Perm [B0, B1, B2, B3, B4, B5, B6, B7, B8, B9, B10, B11, B12, B13, B14, B15, B16, B17, B18, B19, B20, B21, B22, B23, B24, B25, B26, B27, B28, B29, B30, B31, B32, B33, B34, B35, B36, B37] := (pm_38_1_3_4_5_6_7_8_9_10 B0 B1 B2 B3 B4 B5 B6 B7 B8 B9 B10 B11 B12 B13 B14 B15 B16 B17 B18 B19 B20 B21 B22 B23 B24 B25 B26 B27 B28 B29 B30 B31 B32 B33 B34 B35 B36 B37).symm
theorem pm_38_1_3_4_5_6_7_8_10 (B0 B1 B2 B3 B4 B5 B6 B7 B8 B9 B10 B11 B12 B13 B14 B15 B16 B17 B18 B19 B20 B21 B22 B23 B24 B25 B26 B27 B28 B29 B30 B31 B32 B33 B34 B35 B36 B37 : va_W) : [B0, B1, B2, B3, B4, B5, B6, B7, B8, B9, B10, B11, B12, B13, B14, B15, B16, B17, B18, B19, B20, B21, B22, B23, B24, B25, B26, B27, B28, B29, B30, B31, B32, B33, B34, B35, B36, B37].Perm ([B1, B3, B4, B5, B6, B7, B8, B10] ++ [B0, B2, B9, B11, B12, B13, B14, B15, B16, B17, B18, B19, B20, B21, B22, B23, B24, B25, B26, B27, B28, B29, B30, B31, B32, B33, B34, B35, B36, B37]) := List.Perm.trans (List.perm_middle (l₁ := [B0]) (a := B1) (l₂ := [B2, B3, B4, B5, B6, B7, B8, B9, B10, B11, B12, B13, B14, B15, B16, B17, B18, B19, B20, B21, B22, B23, B24, B25, B26, B27, B28, B29, B30, B31, B32, B33, B34, B35, B36, B37])) (List.Perm.trans (List.Perm.cons _ (List.perm_middle (l₁ := [B0, B2]) (a := B3) (l₂ := [B4, B5, B6, B7, B8, B9, B10, B11, B12, B13, B14, B15, B16, B17, B18, B19, B20, B21, B22, B23, B24, B25, B26, B27, B28, B29, B30, B31, B32, B33, B34, B35, B36, B37]))) (List.Perm.trans (List.Perm.cons _ (List.Perm.cons _ (List.perm_middle (l₁ := [B0, B2]) (a := B4) (l₂ := [B5, B6, B7, B8, B9, B10, B11, B12, B13, B14, B15, B16, B17, B18, B19, B20, B21, B22, B23, B24, B25, B26, B27, B28, B29, B30, B31, B32, B33, B34, B35, B36, B37])))) (List.Perm.trans (List.Perm.cons _ (List.Perm.cons _ (List.Perm.cons _ (List.perm_middle (l₁ := [B0, B2]) (a := B5) (l₂ := [B6, B7, B8, B9, B10, B11, B12, B13, B14, B15, B16, B17, B18, B19, B20, B21, B22, B23, B24, B25, B26, B27, B28, B29, B30, B31, B32, B33, B34, B35, B36, B37]))))) (List.Perm.trans (List.Perm.cons _ (List.Perm.cons _ (List.Perm.cons _ (List.Perm.cons _ (List.perm_middle (l₁ := [B0, B2]) (a := B6) (l₂ := [B7, B8, B9, B10, B11, B12, B13, B14, B15, B16, B17, B18, B19, B20, B21, B22, B23, B24, B25, B26, B27, B28, B29, B30, B31, B32, B33, B34, B35, B36, B37])))))) (List.Perm.trans (List.Perm.cons _ (List.Perm.cons _ (List.Perm.cons _ (List.Perm.cons _ (List.Perm.cons _ (List.perm_middle (l₁ := [B0, B2]) (a := B7) (l₂ := [B8, B9, B10, B11, B12, B13, B14, B15, B16, B17, B18, B19, B20, B21, B22, B23, B24, B25, B26, B27, B28, B29, B30, B31, B32, B33, B34, B35, B36, B37]))))))) (List.Perm.trans (List.Perm.cons _ (List.Perm.cons _ (List.Perm.cons _ (List.Perm.cons _ (List.Perm.cons _ (List.Perm.cons _ (List.perm_middle (l₁ := [B0, B2]) (a := B8) (l₂ := [B9, B10, B11, B12, B13, B14, B15, B16, B17, B18, B19, B20, B21, B22, B23, B24, B25, B26, B27, B28, B29, B30, B31, B32, B33, B34, B35, B36, B37])))))))) (List.Perm.cons _ (List.Perm.cons _ (List.Perm.cons _ (List.Perm.cons _ (List.Perm.cons _ (List.Perm.cons _ (List.Perm.cons _ (List.perm_middle (l₁ := [B0, B2, B9]) (a := B10) (l₂ := [B11, B12, B13, B14, B15, B16, B17, B18, B19, B20, B21, B22, B23, B24, B25, B26, B27, B28, B29, B30, B31, B32, B33, B34, B35, B36, B37])))))))))))))))
theorem pr_38_1_3_4_5_6_7_8_10 (B0 B1 B2 B3 B4 B5 B6 B7 B8 B9 B10 B11 B12 B13 B14 B15 B16 B17 B18 B19 B20 B21 B22 B23 B24 B25 B26 B27 B28 B29 B30 B31 B32 B33 B34 B35 B36 B37 : va_W) : ([B1, B3, B4, B5, B6, B7, B8, B10] ++ [B0, B2, B9, B11, B12, B13, B14, B15, B16, B17, B18, B19, B20, B21, B22, B23, B24, B25, B26, B27, B28, B29, B30, B31, B32, B33, B34, B35, B36, B37]).Perm [B0, B1, B2, B3, B4, B5, B6, B7, B8, B9, B10, B11, B12, B13, B14, B15, B16, B17, B18, B19, B20, B21, B22, B23, B24, B25, B26, B27, B28, B29, B30, B31, B32, B33, B34, B35, B36, B37] := (pm_38_1_3_4_5_6_7_8_10 B0 B1 B2 B3 B4 B5 B6 B7 B8 B9 B10 B11 B12 B13 B14 B15 B16 B17 B18 B19 B20 B21 B22 B23 B24 B25 B26 B27 B28 B29 B30 B31 B32 B33 B34 B35 B36 B37).symm
theorem pm_38_1_3_4_5_6_7_8_10_11 (B0 B1 B2 B3 B4 B5 B6 B7 B8 B9 B10 B11 B12 B13 B14 B15 B16 B17 B18 B19 B20 B21 B22 B23 B24 B25 B26 B27 B28 B29 B30 B31 B32 B33 B34 B35 B36 B37 : va_W) : [B0, B1, B2, B3, B4, B5, B6, B7, B8, B9, B10, B11, B12, B13, B14, B15, B16, B17, B18, B19, B20, B21, B22, B23, B24, B25, B26, B27, B28, B29, B30, B31, B32, B33, B34, B35, B36, B37].Perm ([B1, B3, B4, B5, B6, B7, B8, B10, B11] ++ [B0, B2, B9, B12, B13, B14, B15, B16, B17, B18, B19, B20, B21, B22, B23, B24, B25, B26, B27, B28, B29, B30, B31, B32, B33, B34, B35, B36, B37]) := List.Perm.trans (List.perm_middle (l₁ := [B0]) (a := B1) (l₂ := [B2, B3, B4, B5, B6, B7, B8, B9, B10, B11, B12, B13, B14, B15, B16, B17, B18, B19, B20, B21, B22, B23, B24, B25, B26, B27, B28, B29, B30, B31, B32, B33, B34, B35, B36, B37])) (List.Perm.trans (List.Perm.cons _ (List.perm_middle (l₁ := [B0, B2]) (a := B3) (l₂ := [B4, B5, B6, B7, B8, B9, B10, B11, B12, B13, B14, B15, B16, B17, B18, B19, B20, B21, B22, B23, B24, B25, B26, B27, B28, B29, B30, B31, B32, B33, B34, B35, B36, B37]))) (List.Perm.trans (List.Perm.cons _ (List.Perm.cons _ (List.perm_middle (l₁ := [B0, B2]) (a := B4) (l₂ := [B5, B6, B7, B8, B9, B10, B11, B12, B13, B14, B15, B16, B17, B18, B19, B20, B21, B22, B23, B24, B25, B26, B27, B28, B29, B30, B31, B32, B33, B34, B35, B36, B37])))) (List.Perm.trans (List.Perm.cons _ (List.Perm.cons _ (List.Perm.cons _ (List.perm_middle (l₁ := [B0, B2]) (a := B5) (l₂ := [B6, B7, B8, B9, B10, B11, B12, B13, B14, B15, B16, B17, B18, B19, B20, B21, B22, B23, B24, B25, B26, B27, B28, B29, B30, B31, B32, B33, B34, B35, B36, B37]))))) (List.Perm.trans (List.Perm.cons _ (List.Perm.cons _ (List.Perm.cons _ (List.Perm.cons _ (List.perm_middle (l₁ := [B0, B2]) (a := B6) (l₂ := [B7, B8, B9, B10, B11, B12, B13, B14, B15, B16, B17, B18, B19, B20, B21, B22, B23, B24, B25, B26, B27, B28, B29, B30, B31, B32, B33, B34, B35, B36, B37])))))) (List.Perm.trans (List.Perm.cons _ (List.Perm.cons _ (List.Perm.cons _ (List.Perm.cons _ (List.Perm.cons _ (List.perm_middle (l₁ := [B0, B2]) (a := B7) (l₂ := [B8, B9, B10, B11, B12, B13, B14, B15, B16, B17, B18, B19, B20, B21, B22, B23, B24, B25, B26, B27, B28, B29, B30, B31, B32, B33, B34, B35, B36, B37]))))))) (List.Perm.trans (List.Perm.cons _ (List.Perm.cons _ (List.Perm.cons _ (List.Perm.cons _ (List.Perm.cons _ (List.Perm.cons _ (List.perm_middle (l₁ := [B0, B2]) (a := B8) (l₂ := [B9, B10, B11, B12, B13, B14, B15, B16, B17, B18, B19, B20, B21, B22, B23, B24, B25, B26, B27, B28, B29, B30, B31, B32, B33, B34, B35, B36, B37])))))))) (List.Perm.trans (List.Perm.cons _ (List.Perm.cons _ (List.Perm.cons _ (List.Perm.cons _ (List.Perm.cons _ (List.Perm.cons _ (List.Perm.cons _ (List.perm_middle (l₁ := [B0, B2, B9]) (a := B10) (l₂ := [B11, B12, B13, B14, B15, B16, B17, B18, B19, B20, B21, B22, B23, B24, B25, B26, B27, B28, B29, B30, B31, B32, B33, B34, B35, B36, B37]))))))))) (List.Perm.cons _ (List.Perm.cons _ (List.Perm.cons _ (List.Perm.cons _ (List.Perm.cons _ (List.Perm.cons _ (List.Perm.cons _ (List.Perm.cons _ (List.perm_middle (l₁ := [B0, B2, B9]) (a := B11) (l₂ := [B12, B13, B14, B15, B16, B17, B18, B19, B20, B21, B22, B23, B24, B25, B26, B27, B28, B29, B30, B31, B32, B33, B34, B35, B36, B37])))))))))))))))))
theorem pr_38_1_3_4_5_6_7_8_10_11 (B0 B1 B2 B3 B4 B5 B6 B7 B8 B9 B10 B11 B12 B13 B14 B15 B16 B17 B18 B19 B20 B21 B22 B23 B24 B25 B26 B27 B28 B29 B30 B31 B32 B33 B34 B35 B36 B37 : va_W) : ([B1, B3, B4, B5, B6, B7, B8, B10, B11] ++ [B0, B2, B9, B12, B13, B14, B15, B16, B17, B18, B19, B20, B21, B22, B23, B24, B25, B26, B27, B28, B29, B30, B31, B32, B33, B34, B35, B36, B37]).Perm [B0, B1, B2, B3, B4, B5, B6, B7, B8, B9, B10, B11, B12, B13, B14, B15, B16, B17, B18, B19, B20, B21, B22, B23, B24, B25, B26, B27, B28, B29, B30, B31, B32, B33, B34, B35, B36, B37] := (pm_38_1_3_4_5_6_7_8_10_11 B0 B1 B2 B3 B4 B5 B6 B7 B8 B9 B10 B11 B12 B13 B14 B15 B16 B17 B18 B19 B20 B21 B22 B23 B24 B25 B26 B27 B28 B29 B30 B31 B32 B33 B34 B35 B36 B37).symm
theorem pm_38_1_3_4_5_6_7_8_10_12_13_14_15_16_17 (B0 B1 B2 B3 B4 B5 B6 B7 B8 B9 B10 B11 B12 B13 B14 B15 B16 B17 B18 B19 B20 B21 B22 B23 B24 B25 B26 B27 B28 B29 B30 B31 B32 B33 B34 B35 B36 B37 : va_W) : [B0, B1, B2, B3, B4, B5, B6, B7, B8, B9, B10, B11, B12, B13, B14, B15, B16, B17, B18, B19, B20, B21, B22, B23, B24, B25, B26, B27, B28, B29, B30, B31, B32, B33, B34, B35, B36, B37].Perm ([B1, B3, B4, B5, B6, B7, B8, B10, B12, B13, B14, B15, B16, B17] ++ [B0, B2, B9, B11, B18, B19, B20, B21, B22, B23, B24, B25, B26, B27, B28, B29, B30, B31, B32, B33, B34, B35, B36, B37]) := List.Perm.trans (List.perm_middle (l₁ := [B0]) (a := B1) (l₂ := [B2, B3, B4, B5, B6, B7, B8, B9, B10, B11, B12, B13, B14, B15, B16, B17, B18, B19, B20, B21, B22, B23, B24, B25, B26, B27, B28, B29, B30, B31, B32, B33, B34, B35, B36, B37])) (List.Perm.trans (List.Perm.cons _ (List.perm_middle (l₁ := [B0, B2]) (a := B3) (l₂ := [B4, B5, B6, B7, B8, B9, B10, B11, B12, B13, B14, B15, B16, B17, B18, B19, B20, B21, B22, B23, B24, B25, B26, B27, B28, B29, B30, B31, B32, B33, B34, B35, B36, B37]))) (List.Perm.trans (List.Perm.cons _ (List.Perm.cons _ (List.perm_middle (l₁ := [B0, B2]) (a := B4) (l₂ := [B5, B6, B7, B8, B9, B10, B11, B12, B13, B14, B15, B16, B17, B18, B19, B20, B21, B22, B23, B24, B25, B26, B27, B28, B29, B30, B31, B32, B33, B34, B35, B36, B37])))) (List.Perm.trans (List.Perm.cons _ (List.Perm.cons _ (List.Perm.cons _ (List.perm_middle (l₁ := [B0, B2]) (a := B5) (l₂ := [B6, B7, B8, B9, B10, B11, B12, B13, B14, B15, B16, B17, B18, B19, B20, B21, B22, B23, B24, B25, B26, B27, B28, B29, B30, B31, B32, B33, B34, B35, B36, B37]))))) (List.Perm.trans (List.Perm.cons _ (List.Perm.cons _ (List.Perm.cons _ (List.Perm.cons _ (List.perm_middle (l₁ := [B0, B2]) (a := B6) (l₂ := [B7, B8, B9, B10, B11, B12, B13, B14, B15, B16, B17, B18, B19, B20, B21, B22, B23, B24, B25, B26, B27, B28, B29, B30, B31, B32, B33, B34, B35, B36, B37])))))) (List.Perm.trans (List.Perm.cons _ (List.Perm.cons _ (List.Perm.cons _ (List.Perm.cons _ (List.Perm.cons _ (List.perm_middle (l₁ := [B0, B2]) (a := B7) (l₂ := [B8, B9, B10, B11, B12, B13, B14, B15, B16, B17, B18, B19, B20, B21, B22, B23, B24, B25, B26, B27, B28, B29, B30, B31, B32, B33, B34, B35, B36, B37]))))))) (List.Perm.trans (List.Perm.cons _ (List.Perm.cons _ (List.Perm.cons _ (List.Perm.cons _ (List.Perm.cons _ (List.Perm.cons _ (List.perm_middle (l₁ := [B0, B2]) (a := B8) (l₂ := [B9, B10, B11, B12, B13, B14, B15, B16, B17, B18, B19, B20, B21, B22, B23, B24, B25, B26, B27, B28, B29, B30, B31, B32, B33, B34, B35, B36, B37])))))))) (List.Perm.trans (List.Perm.cons _ (List.Perm.cons _ (List.Perm.cons _ (List.Perm.cons _ (List.Perm.cons _ (List.Perm.cons _ (List.Perm.cons _ (List.perm_middle (l₁ := [B0, B2, B9]) (a := B10) (l₂ := [B11, B12, B13, B14, B15, B16, B17, B18, B19, B20, B21, B22, B23, B24, B25, B26, B27, B28, B29, B30, B31, B32, B33, B34, B35, B36, B37]))))))))) (List.Perm.trans (List.Perm.cons _ (List.Perm.cons _ (List.Perm.cons _ (List.Perm.cons _ (List.Perm.cons _ (List.Perm.cons _ (List.Perm.cons _ (List.Perm.cons _ (List.perm_middle (l₁ := [B0, B2, B9, B11]) (a := B12) (l₂ := [B13, B14, B15, B16, B17, B18, B19, B20, B21, B22, B23, B24, B25, B26, B27, B28, B29, B30, B31, B32, B33, B34, B35, B36, B37])))))))))) (List.Perm.trans (List.Perm.cons _ (List.Perm.cons _ (List.Perm.cons _ (List.Perm.cons _ (List.Perm.cons _ (List.Perm.cons _ (List.Perm.cons _ (List.Perm.cons _ (List.Perm.cons _ (List.perm_middle (l₁ := [B0, B2, B9, B11]) (a := B13) (l₂ := [B14, B15, B16, B17, B18, B19, B20, B21, B22, B23, B24, B25, B26, B27, B28, B29, B30, B31, B32, B33, B34, B35, B36, B37]))))))))))) (List.Perm.trans (List.Perm.cons _ (List.Perm.cons _ (List.Perm.cons _ (List.Perm.cons _ (List.Perm.cons _ (List.Perm.cons _ (List.Perm.cons _ (List.Perm.cons _ (List.Perm.cons _ (List.Perm.cons _ (List.perm_middle (l₁ := [B0, B2, B9, B11]) (a := B14) (l₂ := [B15, B16, B17, B18, B19, B20, B21, B22, B23, B24, B25, B26, B27, B28, B29, B30, B31, B32, B33, B34, B35, B36, B37])))))))))))) (List.Perm.trans (List.Perm.cons _ (List.Perm.cons _ (List.Perm.cons _ (List.Perm.cons _ (List.Perm.cons _ (List.Perm.cons _ (List.Perm.cons _ (List.Perm.cons _ (List.Perm.cons _ (List.Perm.cons _ (List.Perm.cons _ (List.perm_middle (l₁ := [B0, B2, B9, B11]) (a := B15) (l₂ := [B16, B17, B18, B19, B20, B21, B22, B23, B24, B25, B26, B27, B28, B29, B30, B31, B32, B33, B34, B35, B36, B37]))))))))))))) (List.Perm.trans (List.Perm.cons _ (List.Perm.cons _ (List.Perm.cons _ (List.Perm.cons _ (List.Perm.cons _ (List.Perm.cons _ (List.Perm.cons _ (List.Perm.cons _ (List.Perm.cons _ (List.Perm.cons _ (List.Perm.cons _ (List.Perm.cons _ (List.perm_middle (l₁ := [B0, B2, B9, B11]) (a := B16) (l₂ := [B17, B18, B19, B20, B21, B22, B23, B24, B25, B26, B27, B28, B29, B30, B31, B32, B33, B34, B35, B36, B37])))))))))))))) (List.Perm.cons _ (List.Perm.cons _ (List.Perm.cons _ (List.Perm.cons _ (List.Perm.cons _ (List.Perm.cons _ (List.Perm.cons _ (List.Perm.cons _ (List.Perm.cons _ (List.Perm.cons _ (List.Perm.cons _ (List.Perm.cons _ (List.Perm.cons _ (List.perm_middle (l₁ := [B0, B2, B9, B11]) (a := B17) (l₂ := [B18, B19, B20, B21, B22, B23, B24, B25, B26, B27, B28, B29, B30, B31, B32, B33, B34, B35, B36, B37])))))))))))))))))))))))))))
theorem pr_38_1_3_4_5_6_7_8_10_12_13_14_15_16_17 (B0 B1 B2 B3 B4 B5 B6 B7 B8 B9 B10 B11 B12 B13 B14 B15 B16 B17 B18 B19 B20 B21 B22 B23 B24 B25 B26 B27 B28 B29 B30 B31 B32 B33 B34 B35 B36 B37 : va_W) : ([B1, B3, B4, B5, B6, B7, B8, B10, B12, B13, B14, B15, B16, B17] ++ [B0, B2, B9, B11, B18, B19, B20, B21, B22, B23, B24, B25, B26, B27, B28, B29, B30, B31, B32, B33, B34, B35, B36, B37]).Perm [B0, B1, B2, B3, B4, B5, B6, B7, B8, B9, B10, B11, B12, B13, B14, B15, B16, B17, B18, B19, B20, B21, B22, B23, B24, B25, B26, B27, B28, B29, B30, B31, B32, B33, B34, B35, B36, B37] := (pm_38_1_3_4_5_6_7_8_10_12_13_14_15_16_17 B0 B1 B2 B3 B4 B5 B6 B7 B8 B9 B10 B11 B12 B13 B14 B15 B16 B17 B18 B19 B20 B21 B22 B23 B24 B25 B26 B27 B28 B29 B30 B31 B32 B33 B34 B35 B36 B37).symm
theorem pm_38_1_12_13_14_15_16_10 (B0 B1 B2 B3 B4 B5 B6 B7 B8 B9 B10 B11 B12 B13 B14 B15 B16 B17 B18 B19 B20 B21 B22 B23 B24 B25 B26 B27 B28 B29 B30 B31 B32 B33 B34 B35 B36 B37 : va_W) : [B0, B1, B2, B3, B4, B5, B6, B7, B8, B9, B10, B11, B12, B13, B14, B15, B16, B17, B18, B19, B20, B21, B22, B23, B24, B25, B26, B27, B28, B29, B30, B31, B32, B33, B34, B35, B36, B37].Perm ([B1, B12, B13, B14, B15, B16, B10] ++ [B0, B2, B3, B4, B5, B6, B7, B8, B9, B11, B17, B18, B19, B20, B21, B22, B23, B24, B25, B26, B27, B28, B29, B30, B31, B32, B33, B34, B35, B36, B37]) := List.Perm.trans (List.perm_middle (l₁ := [B0]) (a := B1) (l₂ := [B2, B3, B4, B5, B6, B7, B8, B9, B10, B11, B12, B13, B14, B15, B16, B17, B18, B19, B20, B21, B22, B23, B24, B25, B26, B27, B28, B29, B30, B31, B32, B33, B34, B35, B36, B37])) (List.Perm.trans (List.Perm.cons _ (List.perm_middle (l₁ := [B0, B2, B3, B4, B5, B6, B7, B8, B9, B10, B11]) (a := B12) (l₂ := [B13, B14, B15, B16, B17, B18, B19, B20, B21, B22, B23, B24, B25, B26, B27, B28, B29, B30, B31, B32, B33, B34, B35, B36, B37]))) (List.Perm.trans (List.Perm.cons _ (List.Perm.cons _ (List.perm_middle (l₁ := [B0, B2, B3, B4, B5, B6, B7, B8, B9, B10, B11]) (a := B13) (l₂ := [B14, B15, B16, B17, B18, B19, B20, B21, B22, B23, B24, B25, B26, B27, B28, B29, B30, B31, B32, B33, B34, B35, B36, B37])))) (List.Perm.trans (List.Perm.cons _ (List.Perm.cons _ (List.Perm.cons _ (List.perm_middle (l₁ := [B0, B2, B3, B4, B5, B6, B7, B8, B9, B10, B11]) (a := B14) (l₂ := [B15, B16, B17, B18, B19, B20, B21, B22, B23, B24, B25, B26, B27, B28, B29, B30, B31, B32, B33, B34, B35, B36, B37]))))) (List.Perm.trans (List.Perm.cons _ (List.Perm.cons _ (List.Perm.cons _ (List.Perm.cons _ (List.perm_middle (l₁ := [B0, B2, B3, B4, B5, B6, B7, B8, B9, B10, B11]) (a := B15) (l₂ := [B16, B17, B18, B19, B20, B21, B22, B23, B24, B25, B26, B27, B28, B29, B30, B31, B32, B33, B34, B35, B36, B37])))))) (List.Perm.trans (List.Perm.cons _ (List.Perm.cons _ (List.Perm.cons _ (List.Perm.cons _ (List.Perm.cons _ (List.perm_middle (l₁ := [B0, B2, B3, B4, B5, B6, B7, B8, B9, B10, B11]) (a := B16) (l₂ := [B17, B18, B19, B20, B21, B22, B23, B24, B25, B26, B27, B28, B29, B30, B31, B32, B33, B34, B35, B36, B37]))))))) (List.Perm.cons _ (List.Perm.cons _ (List.Perm.cons _ (List.Perm.cons _ (List.Perm.cons _ (List.Perm.cons _ (List.perm_middle (l₁ := [B0, B2, B3, B4, B5, B6, B7, B8, B9]) (a := B10) (l₂ := [B11, B17, B18, B19, B20, B21, B22, B23, B24, B25, B26, B27, B28, B29, B30, B31, B32, B33, B34, B35, B36, B37])))))))))))))
theorem pr_38_1_12_13_14_15_16_10 (B0 B1 B2 B3 B4 B5 B6 B7 B8 B9 B10 B11 B12 B13 B14 B15 B16 B17 B18 B19 B20 B21 B22 B23 B24 B25 B26 B27 B28 B29 B30 B31 B32 B33 B34 B35 B36 B37 : va_W) : ([B1, B12, B13, B14, B15, B16, B10] ++ [B0, B2, B3, B4, B5, B6, B7, B8, B9, B11, B17, B18, B19, B20, B21, B22, B23, B24, B25, B26, B27, B28, B29, B30, B31, B32, B33, B34, B35, B36, B37]).Perm [B0, B1, B2, B3, B4, B5, B6, B7, B8, B9, B10, B11, B12, B13, B14, B15, B16, B17, B18, B19, B20, B21, B22, B23, B24, B25, B26, B27, B28, B29, B30, B31, B32, B33, B34, B35, B36, B37] := (pm_38_1_12_13_14_15_16_10 B0 B1 B2 B3 B4 B5 B6 B7 B8 B9 B10 B11 B12 B13 B14 B15 B16 B17 B18 B19 B20 B21 B22 B23 B24 B25 B26 B27 B28 B29 B30 B31 B32 B33 B34 B35 B36 B37).symm
theorem pm_38_1_17 (B0 B1 B2 B3 B4 B5 B6 B7 B8 B9 B10 B11 B12 B13 B14 B15 B16 B17 B18 B19 B20 B21 B22 B23 B24 B25 B26 B27 B28 B29 B30 B31 B32 B33 B34 B35 B36 B37 : va_W) : [B0, B1, B2, B3, B4, B5, B6, B7, B8, B9, B10, B11, B12, B13, B14, B15, B16, B17, B18, B19, B20, B21, B22, B23, B24, B25, B26, B27, B28, B29, B30, B31, B32, B33, B34, B35, B36, B37].Perm ([B1, B17] ++ [B0, B2, B3, B4, B5, B6, B7, B8, B9, B10, B11, B12, B13, B14, B15, B16, B18, B19, B20, B21, B22, B23, B24, B25, B26, B27, B28, B29, B30, B31, B32, B33, B34, B35, B36, B37]) := List.Perm.trans (List.perm_middle (l₁ := [B0]) (a := B1) (l₂ := [B2, B3, B4, B5, B6, B7, B8, B9, B10, B11, B12, B13, B14, B15, B16, B17, B18, B19, B20, B21, B22, B23, B24, B25, B26, B27, B28, B29, B30, B31, B32, B33, B34, B35, B36, B37])) (List.Perm.cons _ (List.perm_middle (l₁ := [B0, B2, B3, B4, B5, B6, B7, B8, B9, B10, B11, B12, B13, B14, B15, B16]) (a := B17) (l₂ := [B18, B19, B20, B21, B22, B23, B24, B25, B26, B27, B28, B29, B30, B31, B32, B33, B34, B35, B36, B37])))
theorem pr_38_1_17 (B0 B1 B2 B3 B4 B5 B6 B7 B8 B9 B10 B11 B12 B13 B14 B15 B16 B17 B18 B19 B20 B21 B22 B23 B24 B25 B26 B27 B28 B29 B30 B31 B32 B33 B34 B35 B36 B37 : va_W) : ([B1, B17] ++ [B0, B2, B3, B4, B5, B6, B7, B8, B9, B10, B11, B12, B13, B14, B15, B16, B18, B19, B20, B21, B22, B23, B24, B25, B26, B27, B28, B29, B30, B31, B32, B33, B34, B35, B36, B37]).Perm [B0, B1, B2, B3, B4, B5, B6, B7, B8, B9, B10, B11, B12, B13, B14, B15, B16, B17, B18, B19, B20, B21, B22, B23, B24, B25, B26, B27, B28, B29, B30, B31, B32, B33, B34, B35, B36, B37] := (pm_38_1_17 B0 B1 B2 B3 B4 B5 B6 B7 B8 B9 B10 B11 B12 B13 B14 B15 B16 B17 B18 B19 B20 B21 B22 B23 B24 B25 B26 B27 B28 B29 B30 B31 B32 B33 B34 B35 B36 B37).symm
theorem pm_38_19 (B0 B1 B2 B3 B4 B5 B6 B7 B8 B9 B10 B11 B12 B13 B14 B15 B16 B17 B18 B19 B20 B21 B22 B23 B24 B25 B26 B27 B28 B29 B30 B31 B32 B33 B34 B35 B36 B37 : va_W) : [B0, B1, B2, B3, B4, B5, B6, B7, B8, B9, B10, B11, B12, B13, B14, B15, B16, B17, B18, B19, B20, B21, B22, B23, B24, B25, B26, B27, B28, B29, B30, B31, B32, B33, B34, B35, B36, B37].Perm ([B19] ++ [B0, B1, B2, B3, B4, B5, B6, B7, B8, B9, B10, B11, B12, B13, B14, B15, B16, B17, B18, B20, B21, B22, B23, B24, B25, B26, B27, B28, B29, B30, B31, B32, B33, B34, B35, B36, B37]) := List.perm_middle (l₁ := [B0, B1, B2, B3, B4, B5, B6, B7, B8, B9, B10, B11, B12, B13, B14, B15, B16, B17, B18]) (a := B19) (l₂ := [B20, B21, B22, B23, B24, B25, B26, B27, B28, B29, B30, B31, B32, B33, B34, B35, B36, B37])
theorem pr_38_19 (B0 B1 B2 B3 B4 B5 B6 B7 B8 B9 B10 B11 B12 B13 B14 B15 B16 B17 B18 B19 B20 B21 B22 B23 B24 B25 B26 B27 B28 B29 B30 B31 B32 B33 B34 B35 B36 B37 : va_W) : ([B19] ++ [B0, B1, B2, B3, B4, B5, B6, B7, B8, B9, B10, B11, B12, B13, B14, B15, B16, B17, B18, B20, B21, B22, B23, B24, B25, B26, B27, B28, B29, B30, B31, B32, B33, B34, B35, B36, B37]).Perm [B0, B1, B2, B3, B4, B5, B6, B7, B8, B9, B10, B11, B12, B13, B14, B15, B16, B17, B18, B19, B20, B21, B22, B23, B24, B25, B26, B27, B28, B29, B30, B31, B32, B33, B34, B35, B36, B37] := (pm_38_19 B0 B1 B2 B3 B4 B5 B6 B7 B8 B9 B10 B11 B12 B13 B14 B15 B16 B17 B18 B19 B20 B21 B22 B23 B24 B25 B26 B27 B28 B29 B30 B31 B32 B33 B34 B35 B36 B37).symm
theorem pm_38_19_20 (B0 B1 B2 B3 B4 B5 B6 B7 B8 B9 B10 B11 B12 B13 B14 B15 B16 B17 B18 B19 B20 B21 B22 B23 B24 B25 B26 B27 B28 B29 B30 B31 B32 B33 B34 B35 B36 B37 : va_W) : [B0, B1, B2, B3, B4, B5, B6, B7, B8, B9, B10, B11, B12, B13, B14, B15, B16, B17, B18, B19, B20, B21, B22, B23, B24, B25, B26, B27, B28, B29, B30, B31, B32, B33, B34, B35, B36, B37].Perm ([B19, B20] ++ [B0, B1, B2, B3, B4, B5, B6, B7, B8, B9, B10, B11, B12, B13, B14, B15, B16, B17, B18, B21, B22, B23, B24, B25, B26, B27, B28, B29, B30, B31, B32, B33, B34, B35, B36, B37]) := List.Perm.trans (List.perm_middle (l₁ := [B0, B1, B2, B3, B4, B5, B6, B7, B8, B9, B10, B11, B12, B13, B14, B15, B16, B17, B18]) (a := B19) (l₂ := [B20, B21, B22, B23, B24, B25, B26, B27, B28, B29, B30, B31, B32, B33, B34, B35, B36, B37])) (List.Perm.cons _ (List.perm_middle (l₁ := [B0, B1, B2, B3, B4, B5, B6, B7, B8, B9, B10, B11, B12, B13, B14, B15, B16, B17, B18]) (a := B20) (l₂ := [B21, B22, B23, B24, B25, B26, B27, B28, B29, B30, B31, B32, B33, B34, B35, B36, B37])))
theorem pr_38_19_20 (B0 B1 B2 B3 B4 B5 B6 B7 B8 B9 B10 B11 B12 B13 B14 B15 B16 B17 B18 B19 B20 B21 B22 B23 B24 B25 B26 B27 B28 B29 B30 B31 B32 B33 B34 B35 B36 B37 : va_W) : ([B19, B20] ++ [B0, B1, B2, B3, B4, B5, B6, B7, B8, B9, B10, B11, B12, B13, B14, B15, B16, B17, B18, B21, B22, B23, B24, B25, B26, B27, B28, B29, B30, B31, B32, B33, B34, B35, B36, B37]).Perm [B0, B1, B2, B3, B4, B5, B6, B7, B8, B9, B10, B11, B12, B13, B14, B15, B16, B17, B18, B19, B20, B21, B22, B23, B24, B25, B26, B27, B28, B29, B30, B31, B32, B33, B34, B35, B36, B37] := (pm_38_19_20 B0 B1 B2 B3 B4 B5 B6 B7 B8 B9 B10 B11 B12 B13 B14 B15 B16 B17 B18 B19 B20 B21 B22 B23 B24 B25 B26 B27 B28 B29 B30 B31 B32 B33 B34 B35 B36 B37).symm
theorem pm_38_19_20_21_26_27_24_25_28 (B0 B1 B2 B3 B4 B5 B6 B7 B8 B9 B10 B11 B12 B13 B14 B15 B16 B17 B18 B19 B20 B21 B22 B23 B24 B25 B26 B27 B28 B29 B30 B31 B32 B33 B34 B35 B36 B37 : va_W) : [B0, B1, B2, B3, B4, B5, B6, B7, B8, B9, B10, B11, B12, B13, B14, B15, B16, B17, B18, B19, B20, B21, B22, B23, B24, B25, B26, B27, B28, B29, B30, B31, B32, B33, B34, B35, B36, B37].Perm ([B19, B20, B21, B26, B27, B24, B25, B28] ++ [B0, B1, B2, B3, B4, B5, B6, B7, B8, B9, B10, B11, B12, B13, B14, B15, B16, B17, B18, B22, B23, B29, B30, B31, B32, B33, B34, B35, B36, B37]) := List.Perm.trans (List.perm_middle (l₁ := [B0, B1, B2, B3, B4, B5, B6, B7, B8, B9, B10, B11, B12, B13, B14, B15, B16, B17, B18]) (a := B19) (l₂ := [B20, B21, B22, B23, B24, B25, B26, B27, B28, B29, B30, B31, B32, B33, B34, B35, B36, B37])) (List.Perm.trans (List.Perm.cons _ (List.perm_middle (l₁ := [B0, B1, B2, B3, B4, B5, B6, B7, B8, B9, B10, B11, B12, B13, B14, B15, B16, B17, B18]) (a := B20) (l₂ := [B21, B22, B23, B24, B25, B26, B27, B28, B29, B30, B31, B32, B33, B34, B35, B36, B37]))) (List.Perm.trans (List.Perm.cons _ (List.Perm.cons _ (List.perm_middle (l₁ := [B0, B1, B2, B3, B4, B5, B6, B7, B8, B9, B10, B11, B12, B13, B14, B15, B16, B17, B18]) (a := B21) (l₂ := [B22, B23, B24, B25, B26, B27, B28, B29, B30, B31, B32, B33, B34, B35, B36, B37])))) (List.Perm.trans (List.Perm.cons _ (List.Perm.cons _ (List.Perm.cons _ (List.perm_middle (l₁ := [B0, B1, B2, B3, B4, B5, B6, B7, B8, B9, B10, B11, B12, B13, B14, B15, B16, B17, B18, B22, B23, B24, B25]) (a := B26) (l₂ := [B27, B28, B29, B30, B31, B32, B33, B34, B35, B36, B37]))))) (List.Perm.trans (List.Perm.cons _ (List.Perm.cons _ (List.Perm.cons _ (List.Perm.cons _ (List.perm_middle (l₁ := [B0, B1, B2, B3, B4, B5, B6, B7, B8, B9, B10, B11, B12, B13, B14, B15, B16, B17, B18, B22, B23, B24, B25]) (a := B27) (l₂ := [B28, B29, B30, B31, B32, B33, B34, B35, B36, B37])))))) (List.Perm.trans (List.Perm.cons _ (List.Perm.cons _ (List.Perm.cons _ (List.Perm.cons _ (List.Perm.cons _ (List.perm_middle (l₁ := [B0, B1, B2, B3, B4, B5, B6, B7, B8, B9, B10, B11, B12, B13, B14, B15, B16, B17, B18, B22, B23]) (a := B24) (l₂ := [B25, B28, B29, B30, B31, B32, B33, B34, B35, B36, B37]))))))) (List.Perm.trans (List.Perm.cons _ (List.Perm.cons _ (List.Perm.cons _ (List.Perm.cons _ (List.Perm.cons _ (List.Perm.cons _ (List.perm_middle (l₁ := [B0, B1, B2, B3, B4, B5, B6, B7, B8, B9, B10, B11, B12, B13, B14, B15, B16, B17, B18, B22, B23]) (a := B25) (l₂ := [B28, B29, B30, B31, B32, B33, B34, B35, B36, B37])))))))) (List.Perm.cons _ (List.Perm.cons _ (List.Perm.cons _ (List.Perm.cons _ (List.Perm.cons _ (List.Perm.cons _ (List.Perm.cons _ (List.perm_middle (l₁ := [B0, B1, B2, B3, B4, B5, B6, B7, B8, B9, B10, B11, B12, B13, B14, B15, B16, B17, B18, B22, B23]) (a := B28) (l₂ := [B29, B30, B31, B32, B33, B34, B35, B36, B37])))))))))))))))
theorem pr_38_19_20_21_26_27_24_25_28 (B0 B1 B2 B3 B4 B5 B6 B7 B8 B9 B10 B11 B12 B13 B14 B15 B16 B17 B18 B19 B20 B21 B22 B23 B24 B25 B26 B27 B28 B29 B30 B31 B32 B33 B34 B35 B36 B37 : va_W) : ([B19, B20, B21, B26, B27, B24, B25, B28] ++ [B0, B1, B2, B3, B4, B5, B6, B7, B8, B9, B10, B11, B12, B13, B14, B15, B16, B17, B18, B22, B23, B29, B30, B31, B32, B33, B34, B35, B36, B37]).Perm [B0, B1, B2, B3, B4, B5, B6, B7, B8, B9, B10, B11, B12, B13, B14, B15, B16, B17, B18, B19, B20, B21, B22, B23, B24, B25, B26, B27, B28, B29, B30, B31, B32, B33, B34, B35, B36, B37] := (pm_38_19_20_21_26_27_24_25_28 B0 B1 B2 B3 B4 B5 B6 B7 B8 B9 B10 B11 B12 B13 B14 B15 B16 B17 B18 B19 B20 B21 B22 B23 B24 B25 B26 B27 B28 B29 B30 B31 B32 B33 B34 B35 B36 B37).symm
theorem pm_38_19_20_22 (B0 B1 B2 B3 B4 B5 B6 B7 B8 B9 B10 B11 B12 B13 B14 B15 B16 B17 B18 B19 B20 B21 B22 B23 B24 B25 B26 B27 B28 B29 B30 B31 B32 B33 B34 B35 B36 B37 : va_W) : [B0, B1, B2, B3, B4, B5, B6, B7, B8, B9, B10, B11, B12, B13, B14, B15, B16, B17, B18, B19, B20, B21, B22, B23, B24, B25, B26, B27, B28, B29, B30, B31, B32, B33, B34, B35, B36, B37].Perm ([B19, B20, B22] ++ [B0, B1, B2, B3, B4, B5, B6, B7, B8, B9, B10, B11, B12, B13, B14, B15, B16, B17, B18, B21, B23, B24, B25, B26, B27, B28, B29, B30, B31, B32, B33, B34, B35, B36, B37]) := List.Perm.trans (List.perm_middle (l₁ := [B0, B1, B2, B3, B4, B5, B6, B7, B8, B9, B10, B11, B12, B13, B14, B15, B16, B17, B18]) (a := B19) (l₂ := [B20, B21, B22, B23, B24, B25, B26, B27, B28, B29, B30, B31, B32, B33, B34, B35, B36, B37])) (List.Perm.trans (List.Perm.cons _ (List.perm_middle (l₁ := [B0, B1, B2, B3, B4, B5, B6, B7, B8, B9, B10, B11, B12, B13, B14, B15, B16, B17, B18]) (a := B20) (l₂ := [B21, B22, B23, B24, B25, B26, B27, B28, B29, B30, B31, B32, B33, B34, B35, B36, B37]))) (List.Perm.cons _ (List.Perm.cons _ (List.perm_middle (l₁ := [B0, B1, B2, B3, B4, B5, B6, B7, B8, B9, B10, B11, B12, B13, B14, B15, B16, B17, B18, B21]) (a := B22) (l₂ := [B23, B24, B25, B26, B27, B28, B29, B30, B31, B32, B33, B34, B35, B36, B37])))))
theorem pr_38_19_20_22 (B0 B1 B2 B3 B4 B5 B6 B7 B8 B9 B10 B11 B12 B13 B14 B15 B16 B17 B18 B19 B20 B21 B22 B23 B24 B25 B26 B27 B28 B29 B30 B31 B32 B33 B34 B35 B36 B37 : va_W) : ([B19, B20, B22] ++ [B0, B1, B2, B3, B4, B5, B6, B7, B8, B9, B10, B11, B12, B13, B14, B15, B16, B17, B18, B21, B23, B24, B25, B26, B27, B28, B29, B30, B31, B32, B33, B34, B35, B36, B37]).Perm [B0, B1, B2, B3, B4, B5, B6, B7, B8, B9, B10, B11, B12, B13, B14, B15, B16, B17, B18, B19, B20, B21, B22, B23, B24, B25, B26, B27, B28, B29, B30, B31, B32, B33, B34, B35, B36, B37] := (pm_38_19_20_22 B0 B1 B2 B3 B4 B5 B6 B7 B8 B9 B10 B11 B12 B13 B14 B15 B16 B17 B18 B19 B20 B21 B22 B23 B24 B25 B26 B27 B28 B29 B30 B31 B32 B33 B34 B35 B36 B37).symm
theorem pm_38_19_20_22_23_26_27_24_25_28_33_34_35_36_37 (B0 B1 B2 B3 B4 B5 B6 B7 B8 B9 B10 B11 B12 B13 B14 B15 B16 B17 B18 B19 B20 B21 B22 B23 B24 B25 B26 B27 B28 B29 B30 B31 B32 B33 B34 B35 B36 B37 : va_W) : [B0, B1, B2, B3, B4, B5, B6, B7, B8, B9, B10, B11, B12, B13, B14, B15, B16, B17, B18, B19, B20, B21, B22, B23, B24, B25, B26, B27, B28, B29, B30, B31, B32, B33, B34, B35, B36, B37].Perm ([B19, B20, B22, B23, B26, B27, B24, B25, B28, B33, B34, B35, B36, B37] ++ [B0, B1, B2, B3, B4, B5, B6, B7, B8, B9, B10, B11, B12, B13, B14, B15, B16, B17, B18, B21, B29, B30, B31, B32]) := List.Perm.trans (List.perm_middle (l₁ := [B0, B1, B2, B3, B4, B5, B6, B7, B8, B9, B10, B11, B12, B13, B14, B15, B16, B17, B18]) (a := B19) (l₂ := [B20, B21, B22, B23, B24, B25, B26, B27, B28, B29, B30, B31, B32, B33, B34, B35, B36, B37])) (List.Perm.trans (List.Perm.cons _ (List.perm_middle (l₁ := [B0, B1, B2, B3, B4, B5, B6, B7, B8, B9, B10, B11, B12, B13, B14, B15, B16, B17, B18]) (a := B20) (l₂ := [B21, B22, B23, B24, B25, B26, B27, B28, B29, B30, B31, B32, B33, B34, B35, B36, B37]))) (List.Perm.trans (List.Perm.cons _ (List.Perm.cons _ (List.perm_middle (l₁ := [B0, B1, B2, B3, B4, B5, B6, B7, B8, B9, B10, B11, B12, B13, B14, B15, B16, B17, B18, B21]) (a := B22) (l₂ := [B23, B24, B25, B26, B27, B28, B29, B30, B31, B32, B33, B34, B35, B36, B37])))) (List.Perm.trans (List.Perm.cons _ (List.Perm.cons _ (List.Perm.cons _ (List.perm_middle (l₁ := [B0, B1, B2, B3, B4, B5, B6, B7, B8, B9, B10, B11, B12, B13, B14, B15, B16, B17, B18, B21]) (a := B23) (l₂ := [B24, B25, B26, B27, B28, B29, B30, B31, B32, B33, B34, B35, B36, B37]))))) (List.Perm.trans (List.Perm.cons _ (List.Perm.cons _ (List.Perm.cons _ (List.Perm.cons _ (List.perm_middle (l₁ := [B0, B1, B2, B3, B4, B5, B6, B7, B8, B9, B10, B11, B12, B13, B14, B15, B16, B17, B18, B21, B24, B25]) (a := B26) (l₂ := [B27, B28, B29, B30, B31, B32, B33, B34, B35, B36, B37])))))) (List.Perm.trans (List.Perm.cons _ (List.Perm.cons _ (List.Perm.cons _ (List.Perm.cons _ (List.Perm.cons _ (List.perm_middle (l₁ := [B0, B1, B2, B3, B4, B5, B6, B7, B8, B9, B10, B11, B12, B13, B14, B15, B16, B17, B18, B21, B24, B25]) (a := B27) (l₂ := [B28, B29, B30, B31, B32, B33, B34, B35, B36, B37]))))))) (List.Perm.trans (List.Perm.cons _ (List.Perm.cons _ (List.Perm.cons _ (List.Perm.cons _ (List.Perm.cons _ (List.Perm.cons _ (List.perm_middle (l₁ := [B0, B1, B2, B3, B4, B5, B6, B7, B8, B9, B10, B11, B12, B13, B14, B15, B16, B17, B18, B21]) (a := B24) (l₂ := [B25, B28, B29, B30, B31, B32, B33, B34, B35, B36, B37])))))))) (List.Perm.trans (List.Perm.cons _ (List.Perm.cons _ (List.Perm.cons _ (List.Perm.cons _ (List.Perm.cons _ (List.Perm.cons _ (List.Perm.cons _ (List.perm_middle (l₁ := [B0, B1, B2, B3, B4, B5, B6, B7, B8, B9, B10, B11, B12, B13, B14, B15, B16, B17, B18, B21]) (a := B25) (l₂ := [B28, B29, B30, B31, B32, B33, B34, B35, B36, B37]))))))))) (List.Perm.trans (List.Perm.cons _ (List.Perm.cons _ (List.Perm.cons _ (List.Perm.cons _ (List.Perm.cons _ (List.Perm.cons _ (List.Perm.cons _ (List.Perm.cons _ (List.perm_middle (l₁ := [B0, B1, B2, B3, B4, B5, B6, B7, B8, B9, B10, B11, B12, B13, B14, B15, B16, B17, B18, B21]) (a := B28) (l₂ := [B29, B30, B31, B32, B33, B34, B35, B36, B37])))))))))) (List.Perm.trans (List.Perm.cons _ (List.Perm.cons _ (List.Perm.cons _ (List.Perm.cons _ (List.Perm.cons _ (List.Perm.cons _ (List.Perm.cons _ (List.Perm.cons _ (List.Perm.cons _ (List.perm_middle (l₁ := [B0, B1, B2, B3, B4, B5, B6, B7, B8, B9, B10, B11, B12, B13, B14, B15, B16, B17, B18, B21, B29, B30, B31, B32]) (a := B33) (l₂ := [B34, B35, B36, B37]))))))))))) (List.Perm.trans (List.Perm.cons _ (List.Perm.cons _ (List.Perm.cons _ (List.Perm.cons _ (List.Perm.cons _ (List.Perm.cons _ (List.Perm.cons _ (List.Perm.cons _ (List.Perm.cons _ (List.Perm.cons _ (List.perm_middle (l₁ := [B0, B1, B2, B3, B4, B5, B6, B7, B8, B9, B10, B11, B12, B13, B14, B15, B16, B17, B18, B21, B29, B30, B31, B32]) (a := B34) (l₂ := [B35, B36, B37])))))))))))) (List.Perm.trans (List.Perm.cons _ (List.Perm.cons _ (List.Perm.cons _ (List.Perm.cons _ (List.Perm.cons _ (List.Perm.cons _ (List.Perm.cons _ (List.Perm.cons _ (List.Perm.cons _ (List.Perm.cons _ (List.Perm.cons _ (List.perm_middle (l₁ := [B0, B1, B2, B3, B4, B5, B6, B7, B8, B9, B10, B11, B12, B13, B14, B15, B16, B17, B18, B21, B29, B30, B31, B32]) (a := B35) (l₂ := [B36, B37]))))))))))))) (List.Perm.trans (List.Perm.cons _ (List.Perm.cons _ (List.Perm.cons _ (List.Perm.cons _ (List.Perm.cons _ (List.Perm.cons _ (List.Perm.cons _ (List.Perm.cons _ (List.Perm.cons _ (List.Perm.cons _ (List.Perm.cons _ (List.Perm.cons _ (List.perm_middle (l₁ := [B0, B1, B2, B3, B4, B5, B6, B7, B8, B9, B10, B11, B12, B13, B14, B15, B16, B17, B18, B21, B29, B30, B31, B32]) (a := B36) (l₂ := [B37])))))))))))))) (List.Perm.cons _ (List.Perm.cons _ (List.Perm.cons _ (List.Perm.cons _ (List.Perm.cons _ (List.Perm.cons _ (List.Perm.cons _ (List.Perm.cons _ (List.Perm.cons _ (List.Perm.cons _ (List.Perm.cons _ (List.Perm.cons _ (List.Perm.cons _ (List.perm_middle (l₁ := [B0, B1, B2, B3, B4, B5, B6, B7, B8, B9, B10, B11, B12, B13, B14, B15, B16, B17, B18, B21, B29, B30, B31, B32]) (a := B37) (l₂ := [])))))))))))))))))))))))))))
theorem pr_38_19_20_22_23_26_27_24_25_28_33_34_35_36_37 (B0 B1 B2 B3 B4 B5 B6 B7 B8 B9 B10 B11 B12 B13 B14 B15 B16 B17 B18 B19 B20 B21 B22 B23 B24 B25 B26 B27 B28 B29 B30 B31 B32 B33 B34 B35 B36 B37 : va_W) : ([B19, B20, B22, B23, B26, B27, B24, B25, B28, B33, B34, B35, B36, B37] ++ [B0, B1, B2, B3, B4, B5, B6, B7, B8, B9, B10, B11, B12, B13, B14, B15, B16, B17, B18, B21, B29, B30, B31, B32]).Perm [B0, B1, B2, B3, B4, B5, B6, B7, B8, B9, B10, B11, B12, B13, B14, B15, B16, B17, B18, B19, B20, B21, B22, B23, B24, B25, B26, B27, B28, B29, B30, B31, B32, B33, B34, B35, B36, B37] := (pm_38_19_20_22_23_26_27_24_25_28_33_34_35_36_37 B0 B1 B2 B3 B4 B5 B6 B7 B8 B9 B10 B11 B12 B13 B14 B15 B16 B17 B18 B19 B20 B21 B22 B23 B24 B25 B26 B27 B28 B29 B30 B31 B32 B33 B34 B35 B36 B37).symm
theorem pm_38_19_20_22_26_27_24_25 (B0 B1 B2 B3 B4 B5 B6 B7 B8 B9 B10 B11 B12 B13 B14 B15 B16 B17 B18 B19 B20 B21 B22 B23 B24 B25 B26 B27 B28 B29 B30 B31 B32 B33 B34 B35 B36 B37 : va_W) : [B0, B1, B2, B3, B4, B5, B6, B7, B8, B9, B10, B11, B12, B13, B14, B15, B16, B17, B18, B19, B20, B21, B22, B23, B24, B25, B26, B27, B28, B29, B30, B31, B32, B33, B34, B35, B36, B37].Perm ([B19, B20, B22, B26, B27, B24, B25] ++ [B0, B1, B2, B3, B4, B5, B6, B7, B8, B9, B10, B11, B12, B13, B14, B15, B16, B17, B18, B21, B23, B28, B29, B30, B31, B32, B33, B34, B35, B36, B37]) := List.Perm.trans (List.perm_middle (l₁ := [B0, B1, B2, B3, B4, B5, B6, B7, B8, B9, B10, B11, B12, B13, B14, B15, B16, B17, B18]) (a := B19) (l₂ := [B20, B21, B22, B23, B24, B25, B26, B27, B28, B29, B30, B31, B32, B33, B34, B35, B36, B37])) (List.Perm.trans (List.Perm.cons _ (List.perm_middle (l₁ := [B0, B1, B2, B3, B4, B5, B6, B7, B8, B9, B10, B11, B12, B13, B14, B15, B16, B17, B18]) (a := B20) (l₂ := [B21, B22, B23, B24, B25, B26, B27, B28, B29, B30, B31, B32, B33, B34, B35, B36, B37]))) (List.Perm.trans (List.Perm.cons _ (List.Perm.cons _ (List.perm_middle (l₁ := [B0, B1, B2, B3, B4, B5, B6, B7, B8, B9, B10, B11, B12, B13, B14, B15, B16, B17, B18, B21]) (a := B22) (l₂ := [B23, B24, B25, B26, B27, B28, B29, B30, B31, B32, B33, B34, B35, B36, B37])))) (List.Perm.trans (List.Perm.cons _ (List.Perm.cons _ (List.Perm.cons _ (List.perm_middle (l₁ := [B0, B1, B2, B3, B4, B5, B6, B7, B8, B9, B10, B11, B12, B13, B14, B15, B16, B17, B18, B21, B23, B24, B25]) (a := B26) (l₂ := [B27, B28, B29, B30, B31, B32, B33, B34, B35, B36, B37]))))) (List.Perm.trans (List.Perm.cons _ (List.Perm.cons _ (List.Perm.cons _ (List.Perm.cons _ (List.perm_middle (l₁ := [B0, B1, B2, B3, B4, B5, B6, B7, B8, B9, B10, B11, B12, B13, B14, B15, B16, B17, B18, B21, B23, B24, B25]) (a := B27) (l₂ := [B28, B29, B30, B31, B32, B33, B34, B35, B36, B37])))))) (List.Perm.trans (List.Perm.cons _ (List.Perm.cons _ (List.Perm.cons _ (List.Perm.cons _ (List.Perm.cons _ (List.perm_middle (l₁ := [B0, B1, B2, B3, B4, B5, B6, B7, B8, B9, B10, B11, B12, B13, B14, B15, B16, B17, B18, B21, B23]) (a := B24) (l₂ := [B25, B28, B29, B30, B31, B32, B33, B34, B35, B36, B37]))))))) (List.Perm.cons _ (List.Perm.cons _ (List.Perm.cons _ (List.Perm.cons _ (List.Perm.cons _ (List.Perm.cons _ (List.perm_middle (l₁ := [B0, B1, B2, B3, B4, B5, B6, B7, B8, B9, B10, B11, B12, B13, B14, B15, B16, B17, B18, B21, B23]) (a := B25) (l₂ := [B28, B29, B30, B31, B32, B33, B34, B35, B36, B37])))))))))))))
theorem pr_38_19_20_22_26_27_24_25 (B0 B1 B2 B3 B4 B5 B6 B7 B8 B9 B10 B11 B12 B13 B14 B15 B16 B17 B18 B19 B20 B21 B22 B23 B24 B25 B26 B27 B28 B29 B30 B31 B32 B33 B34 B35 B36 B37 : va_W) : ([B19, B20, B22, B26, B27, B24, B25] ++ [B0, B1, B2, B3, B4, B5, B6, B7, B8, B9, B10, B11, B12, B13, B14, B15, B16, B17, B18, B21, B23, B28, B29, B30, B31, B32, B33, B34, B35, B36, B37]).Perm [B0, B1, B2, B3, B4, B5, B6, B7, B8, B9, B10, B11, B12, B13, B14, B15, B16, B17, B18, B19, B20, B21, B22, B23, B24, B25, B26, B27, B28, B29, B30, B31, B32, B33, B34, B35, B36, B37] := (pm_38_19_20_22_26_27_24_25 B0 B1 B2 B3 B4 B5 B6 B7 B8 B9 B10 B11 B12 B13 B14 B15 B16 B17 B18 B19 B20 B21 B22 B23 B24 B25 B26 B27 B28 B29 B30 B31 B32 B33 B34 B35 B36 B37).symm
theorem pm_38_19_20_22_26_27_24_25_28 (B0 B1 B2 B3 B4 B5 B6 B7 B8 B9 B10 B11 B12 B13 B14 B15 B16 B17 B18 B19 B20 B21 B22 B23 B24 B25 B26 B27 B28 B29 B30 B31 B32 B33 B34 B35 B36 B37 : va_W) : [B0, B1, B2, B3, B4, B5, B6, B7, B8, B9, B10, B11, B12, B13, B14, B15, B16, B17, B18, B19, B20, B21, B22, B23, B24, B25, B26, B27, B28, B29, B30, B31, B32, B33, B34, B35, B36, B37].Perm ([B19, B20, B22, B26, B27, B24, B25, B28] ++ [B0, B1, B2, B3, B4, B5, B6, B7, B8, B9, B10, B11, B12, B13, B14, B15, B16, B17, B18, B21, B23, B29, B30, B31, B32, B33, B34, B35, B36, B37]) := List.Perm.trans (List.perm_middle (l₁ := [B0, B1, B2, B3, B4, B5, B6, B7, B8, B9, B10, B11, B12, B13, B14, B15, B16, B17, B18]) (a := B19) (l₂ := [B20, B21, B22, B23, B24, B25, B26, B27, B28, B29, B30, B31, B32, B33, B34, B35, B36, B37])) (List.Perm.trans (List.Perm.cons _ (List.perm_middle (l₁ := [B0, B1, B2, B3, B4, B5, B6, B7, B8, B9, B10, B11, B12, B13, B14, B15, B16, B17, B18]) (a := B20) (l₂ := [B21, B22, B23, B24, B25, B26, B27, B28, B29, B30, B31, B32, B33, B34, B35, B36, B37]))) (List.Perm.trans (List.Perm.cons _ (List.Perm.cons _ (List.perm_middle (l₁ := [B0, B1, B2, B3, B4, B5, B6, B7, B8, B9, B10, B11, B12, B13, B14, B15, B16, B17, B18, B21]) (a := B22) (l₂ := [B23, B24, B25, B26, B27, B28, B29, B30, B31, B32, B33, B34, B35, B36, B37])))) (List.Perm.trans (List.Perm.cons _ (List.Perm.cons _ (List.Perm.cons _ (List.perm_middle (l₁ := [B0, B1, B2, B3, B4, B5, B6, B7, B8, B9, B10, B11, B12, B13, B14, B15, B16, B17, B18, B21, B23, B24, B25]) (a := B26) (l₂ := [B27, B28, B29, B30, B31, B32, B33, B34, B35, B36, B37]))))) (List.Perm.trans (List.Perm.cons _ (List.Perm.cons _ (List.Perm.cons _ (List.Perm.cons _ (List.perm_middle (l₁ := [B0, B1, B2, B3, B4, B5, B6, B7, B8, B9, B10, B11, B12, B13, B14, B15, B16, B17, B18, B21, B23, B24, B25]) (a := B27) (l₂ := [B28, B29, B30, B31, B32, B33, B34, B35, B36, B37])))))) (List.Perm.trans (List.Perm.cons _ (List.Perm.cons _ (List.Perm.cons _ (List.Perm.cons _ (List.Perm.cons _ (List.perm_middle (l₁ := [B0, B1, B2, B3, B4, B5, B6, B7, B8, B9, B10, B11, B12, B13, B14, B15, B16, B17, B18, B21, B23]) (a := B24) (l₂ := [B25, B28, B29, B30, B31, B32, B33, B34, B35, B36, B37]))))))) (List.Perm.trans (List.Perm.cons _ (List.Perm.cons _ (List.Perm.cons _ (List.Perm.cons _ (List.Perm.cons _ (List.Perm.cons _ (List.perm_middle (l₁ := [B0, B1, B2, B3, B4, B5, B6, B7, B8, B9, B10, B11, B12, B13, B14, B15, B16, B17, B18, B21, B23]) (a := B25) (l₂ := [B28, B29, B30, B31, B32, B33, B34, B35, B36, B37])))))))) (List.Perm.cons _ (List.Perm.cons _ (List.Perm.cons _ (List.Perm.cons _ (List.Perm.cons _ (List.Perm.cons _ (List.Perm.cons _ (List.perm_middle (l₁ := [B0, B1, B2, B3, B4, B5, B6, B7, B8, B9, B10, B11, B12, B13, B14, B15, B16, B17, B18, B21, B23]) (a := B28) (l₂ := [B29, B30, B31, B32, B33, B34, B35, B36, B37])))))))))))))))
theorem pr_38_19_20_22_26_27_24_25_28 (B0 B1 B2 B3 B4 B5 B6 B7 B8 B9 B10 B11 B12 B13 B14 B15 B16 B17 B18 B19 B20 B21 B22 B23 B24 B25 B26 B27 B28 B29 B30 B31 B32 B33 B34 B35 B36 B37 : va_W) : ([B19, B20, B22, B26, B27, B24, B25, B28] ++ [B0, B1, B2, B3, B4, B5, B6, B7, B8, B9, B10, B11, B12, B13, B14, B15, B16, B17, B18, B21, B23, B29, B30, B31, B32, B33, B34, B35, B36, B37]).Perm [B0, B1, B2, B3, B4, B5, B6, B7, B8, B9, B10, B11, B12, B13, B14, B15, B16, B17, B18, B19, B20, B21, B22, B23, B24, B25, B26, B27, B28, B29, B30, B31, B32, B33, B34, B35, B36, B37] := (pm_38_19_20_22_26_27_24_25_28 B0 B1 B2 B3 B4 B5 B6 B7 B8 B9 B10 B11 B12 B13 B14 B15 B16 B17 B18 B19 B20 B21 B22 B23 B24 B25 B26 B27 B28 B29 B30 B31 B32 B33 B34 B35 B36 B37).symm
theorem pm_38_19_20_26_27_24_25 (B0 B1 B2 B3 B4 B5 B6 B7 B8 B9 B10 B11 B12 B13 B14 B15 B16 B17 B18 B19 B20 B21 B22 B23 B24 B25 B26 B27 B28 B29 B30 B31 B32 B33 B34 B35 B36 B37 : va_W) : [B0, B1, B2, B3, B4, B5, B6, B7, B8, B9, B10, B11, B12, B13, B14, B15, B16, B17, B18, B19, B20, B21, B22, B23, B24, B25, B26, B27, B28, B29, B30, B31, B32, B33, B34, B35, B36, B37].Perm ([B19, B20, B26, B27, B24, B25] ++ [B0, B1, B2, B3, B4, B5, B6, B7, B8, B9, B10, B11, B12, B13, B14, B15, B16, B17, B18, B21, B22, B23, B28, B29, B30, B31, B32, B33, B34, B35, B36, B37]) := List.Perm.trans (List.perm_middle (l₁ := [B0, B1, B2, B3, B4, B5, B6, B7, B8, B9, B10, B11, B12, B13, B14, B15, B16, B17, B18]) (a := B19) (l₂ := [B20, B21, B22, B23, B24, B25, B26, B27, B28, B29, B30, B31, B32, B33, B34, B35, B36, B37])) (List.Perm.trans (List.Perm.cons _ (List.perm_middle (l₁ := [B0, B1, B2, B3, B4, B5, B6, B7, B8, B9, B10, B11, B12, B13, B14, B15, B16, B17, B18]) (a := B20) (l₂ := [B21, B22, B23, B24, B25, B26, B27, B28, B29, B30, B31, B32, B33, B34, B35, B36, B37]))) (List.Perm.trans (List.Perm.cons _ (List.Perm.cons _ (List.perm_middle (l₁ := [B0, B1, B2, B3, B4, B5, B6, B7, B8, B9, B10, B11, B12, B13, B14, B15, B16, B17, B18, B21, B22, B23, B24, B25]) (a := B26) (l₂ := [B27, B28, B29, B30, B31, B32, B33, B34, B35, B36, B37])))) (List.Perm.trans (List.Perm.cons _ (List.Perm.cons _ (List.Perm.cons _ (List.perm_middle (l₁ := [B0, B1, B2, B3, B4, B5, B6, B7, B8, B9, B10, B11, B12, B13, B14, B15, B16, B17, B18, B21, B22, B23, B24, B25]) (a := B27) (l₂ := [B28, B29, B30, B31, B32, B33, B34, B35, B36, B37]))))) (List.Perm.trans (List.Perm.cons _ (List.Perm.cons _ (List.Perm.cons _ (List.Perm.cons _ (List.perm_middle (l₁ := [B0, B1, B2, B3, B4, B5, B6, B7, B8, B9, B10, B11, B12, B13, B14, B15, B16, B17, B18, B21, B22, B23]) (a := B24) (l₂ := [B25, B28, B29, B30, B31, B32, B33, B34, B35, B36, B37])))))) (List.Perm.cons _ (List.Perm.cons _ (List.Perm.cons _ (List.Perm.cons _ (List.Perm.cons _ (List.perm_middle (l₁ := [B0, B1, B2, B3, B4, B5, B6, B7, B8, B9, B10, B11, B12, B13, B14, B15, B16, B17, B18, B21, B22, B23]) (a := B25) (l₂ := [B28, B29, B30, B31, B32, B33, B34, B35, B36, B37])))))))))))
theorem pr_38_19_20_26_27_24_25 (B0 B1 B2 B3 B4 B5 B6 B7 B8 B9 B10 B11 B12 B13 B14 B15 B16 B17 B18 B19 B20 B21 B22 B23 B24 B25 B26 B27 B28 B29 B30 B31 B32 B33 B34 B35 B36 B37 : va_W) : ([B19, B20, B26, B27, B24, B25] ++ [B0, B1, B2, B3, B4, B5, B6, B7, B8, B9, B10, B11, B12, B13, B14, B15, B16, B17, B18, B21, B22, B23, B28, B29, B30, B31, B32, B33, B34, B35, B36, B37]).Perm [B0, B1, B2, B3, B4, B5, B6, B7, B8, B9, B10, B11, B12, B13, B14, B15, B16, B17, B18, B19, B20, B21, B22, B23, B24, B25, B26, B27, B28, B29, B30, B31, B32, B33, B34, B35, B36, B37] := (pm_38_19_20_26_27_24_25 B0 B1 B2 B3 B4 B5 B6 B7 B8 B9 B10 B11 B12 B13 B14 B15 B16 B17 B18 B19 B20 B21 B22 B23 B24 B25 B26 B27 B28 B29 B30 B31 B32 B33 B34 B35 B36 B37).symm
theorem pm_38_19_20_26_27_24_25_28 (B0 B1 B2 B3 B4 B5 B6 B7 B8 B9 B10 B11 B12 B13 B14 B15 B16 B17 B18 B19 B20 B21 B22 B23 B24 B25 B26 B27 B28 B29 B30 B31 B32 B33 B34 B35 B36 B37 : va_W) : [B0, B1, B2, B3, B4, B5, B6, B7, B8, B9, B10, B11, B12, B13, B14, B15, B16, B17, B18, B19, B20, B21, B22, B23, B24, B25, B26, B27, B28, B29, B30, B31, B32, B33, B34, B35, B36, B37].Perm ([B19, B20, B26, B27, B24, B25, B28] ++ [B0, B1, B2, B3, B4, B5, B6, B7, B8, B9, B10, B11, B12, B13, B14, B15, B16, B17, B18, B21, B22, B23, B29, B30, B31, B32, B33, B34, B35, B36, B37]) := List.Perm.trans (List.perm_middle (l₁ := [B0, B1, B2, B3, B4, B5, B6, B7, B8, B9, B10, B11, B12, B13, B14, B15, B16, B17, B18]) (a := B19) (l₂ := [B20, B21, B22, B23, B24, B25, B26, B27, B28, B29, B30, B31, B32, B33, B34, B35, B36, B37])) (List.Perm.trans (List.Perm.cons _ (List.perm_middle (l₁ := [B0, B1, B2, B3, B4, B5, B6, B7, B8, B9, B10, B11, B12, B13, B14, B15, B16, B17, B18]) (a := B20) (l₂ := [B21, B22, B23, B24, B25, B26, B27, B28, B29, B30, B31, B32, B33, B34, B35, B36, B37]))) (List.Perm.trans (List.Perm.cons _ (List.Perm.cons _ (List.perm_middle (l₁ := [B0, B1, B2, B3, B4, B5, B6, B7, B8, B9, B10, B11, B12, B13, B14, B15, B16, B17, B18, B21, B22, B23, B24, B25]) (a := B26) (l₂ := [B27, B28, B29, B30, B31, B32, B33, B34, B35, B36, B37])))) (List.Perm.trans (List.Perm.cons _ (List.Perm.cons _ (List.Perm.cons _ (List.perm_middle (l₁ := [B0, B1, B2, B3, B4, B5, B6, B7, B8, B9, B10, B11, B12, B13, B14, B15, B16, B17, B18, B21, B22, B23, B24, B25]) (a := B27) (l₂ := [B28, B29, B30, B31, B32, B33, B34, B35, B36, B37]))))) (List.Perm.trans (List.Perm.cons _ (List.Perm.cons _ (List.Perm.cons _ (List.Perm.cons _ (List.perm_middle (l₁ := [B0, B1, B2, B3, B4, B5, B6, B7, B8, B9, B10, B11, B12, B13, B14, B15, B16, B17, B18, B21, B22, B23]) (a := B24) (l₂ := [B25, B28, B29, B30, B31, B32, B33, B34, B35, B36, B37])))))) (List.Perm.trans (List.Perm.cons _ (List.Perm.cons _ (List.Perm.cons _ (List.Perm.cons _ (List.Perm.cons _ (List.perm_middle (l₁ := [B0, B1, B2, B3, B4, B5, B6, B7, B8, B9, B10, B11, B12, B13, B14, B15, B16, B17, B18, B21, B22, B23]) (a := B25) (l₂ := [B28, B29, B30, B31, B32, B33, B34, B35, B36, B37]))))))) (List.Perm.cons _ (List.Perm.cons _ (List.Perm.cons _ (List.Perm.cons _ (List.Perm.cons _ (List.Perm.cons _ (List.perm_middle (l₁ := [B0, B1, B2, B3, B4, B5, B6, B7, B8, B9, B10, B11, B12, B13, B14, B15, B16, B17, B18, B21, B22, B23]) (a := B28) (l₂ := [B29, B30, B31, B32, B33, B34, B35, B36, B37])))))))))))))
theorem pr_38_19_20_26_27_24_25_28 (B0 B1 B2 B3 B4 B5 B6 B7 B8 B9 B10 B11 B12 B13 B14 B15 B16 B17 B18 B19 B20 B21 B22 B23 B24 B25 B26 B27 B28 B29 B30 B31 B32 B33 B34 B35 B36 B37 : va_W) : ([B19, B20, B26, B27, B24, B25, B28] ++ [B0, B1, B2, B3, B4, B5, B6, B7, B8, B9, B10, B11, B12, B13, B14, B15, B16, B17, B18, B21, B22, B23, B29, B30, B31, B32, B33, B34, B35, B36, B37]).Perm [B0, B1, B2, B3, B4, B5, B6, B7, B8, B9, B10, B11, B12, B13, B14, B15, B16, B17, B18, B19, B20, B21, B22, B23, B24, B25, B26, B27, B28, B29, B30, B31, B32, B33, B34, B35, B36, B37] := (pm_38_19_20_26_27_24_25_28 B0 B1 B2 B3 B4 B5 B6 B7 B8 B9 B10 B11 B12 B13 B14 B15 B16 B17 B18 B19 B20 B21 B22 B23 B24 B25 B26 B27 B28 B29 B30 B31 B32 B33 B34 B35 B36 B37).symm
theorem pm_38_19_20_26_27_24_25_28_29_30_31_32 (B0 B1 B2 B3 B4 B5 B6 B7 B8 B9 B10 B11 B12 B13 B14 B15 B16 B17 B18 B19 B20 B21 B22 B23 B24 B25 B26 B27 B28 B29 B30 B31 B32 B33 B34 B35 B36 B37 : va_W) : [B0, B1, B2, B3, B4, B5, B6, B7, B8, B9, B10, B11, B12, B13, B14, B15, B16, B17, B18, B19, B20, B21, B22, B23, B24, B25, B26, B27, B28, B29, B30, B31, B32, B33, B34, B35, B36, B37].Perm ([B19, B20, B26, B27, B24, B25, B28, B29, B30, B31, B32] ++ [B0, B1, B2, B3, B4, B5, B6, B7, B8, B9, B10, B11, B12, B13, B14, B15, B16, B17, B18, B21, B22, B23, B33, B34, B35, B36, B37]) := List.Perm.trans (List.perm_middle (l₁ := [B0, B1, B2, B3, B4, B5, B6, B7, B8, B9, B10, B11, B12, B13, B14, B15, B16, B17, B18]) (a := B19) (l₂ := [B20, B21, B22, B23, B24, B25, B26, B27, B28, B29, B30, B31, B32, B33, B34, B35, B36, B37])) (List.Perm.trans (List.Perm.cons _ (List.perm_middle (l₁ := [B0, B1, B2, B3, B4, B5, B6, B7, B8, B9, B10, B11, B12, B13, B14, B15, B16, B17, B18]) (a := B20) (l₂ := [B21, B22, B23, B24, B25, B26, B27, B28, B29, B30, B31, B32, B33, B34, B35, B36, B37]))) (List.Perm.trans (List.Perm.cons _ (List.Perm.cons _ (List.perm_middle (l₁ := [B0, B1, B2, B3, B4, B5, B6, B7, B8, B9, B10, B11, B12, B13, B14, B15, B16, B17, B18, B21, B22, B23, B24, B25]) (a := B26) (l₂ := [B27, B28, B29, B30, B31, B32, B33, B34, B35, B36, B37])))) (List.Perm.trans (List.Perm.cons _ (List.Perm.cons _ (List.Perm.cons _ (List.perm_middle (l₁ := [B0, B1, B2, B3, B4, B5, B6, B7, B8, B9, B10, B11, B12, B13, B14, B15, B16, B17, B18, B21, B22, B23, B24, B25]) (a := B27) (l₂ := [B28, B29, B30, B31, B32, B33, B34, B35, B36, B37]))))) (List.Perm.trans (List.Perm.cons _ (List.Perm.cons _ (List.Perm.cons _ (List.Perm.cons _ (List.perm_middle (l₁ := [B0, B1, B2, B3, B4, B5, B6, B7, B8, B9, B10, B11, B12, B13, B14, B15, B16, B17, B18, B21, B22, B23]) (a := B24) (l₂ := [B25, B28, B29, B30, B31, B32, B33, B34, B35, B36, B37])))))) (List.Perm.trans (List.Perm.cons _ (List.Perm.cons _ (List.Perm.cons _ (List.Perm.cons _ (List.Perm.cons _ (List.perm_middle (l₁ := [B0, B1, B2, B3, B4, B5, B6, B7, B8, B9, B10, B11, B12, B13, B14, B15, B16, B17, B18, B21, B22, B23]) (a := B25) (l₂ := [B28, B29, B30, B31, B32, B33, B34, B35, B36, B37]))))))) (List.Perm.trans (List.Perm.cons _ (List.Perm.cons _ (List.Perm.cons _ (List.Perm.cons _ (List.Perm.cons _ (List.Perm.cons _ (List.perm_middle (l₁ := [B0, B1, B2, B3, B4, B5, B6, B7, B8, B9, B10, B11, B12, B13, B14, B15, B16, B17, B18, B21, B22, B23]) (a := B28) (l₂ := [B29, B30, B31, B32, B33, B34, B35, B36, B37])))))))) (List.Perm.trans (List.Perm.cons _ (List.Perm.cons _ (List.Perm.cons _ (List.Perm.cons _ (List.Perm.cons _ (List.Perm.cons _ (List.Perm.cons _ (List.perm_middle (l₁ := [B0, B1, B2, B3, B4, B5, B6, B7, B8, B9, B10, B11, B12, B13, B14, B15, B16, B17, B18, B21, B22, B23]) (a := B29) (l₂ := [B30, B31, B32, B33, B34, B35, B36, B37]))))))))) (List.Perm.trans (List.Perm.cons _ (List.Perm.cons _ (List.Perm.cons _ (List.Perm.cons _ (List.Perm.cons _ (List.Perm.cons _ (List.Perm.cons _ (List.Perm.cons _ (List.perm_middle (l₁ := [B0, B1, B2, B3, B4, B5, B6, B7, B8, B9, B10, B11, B12, B13, B14, B15, B16, B17, B18, B21, B22, B23]) (a := B30) (l₂ := [B31, B32, B33, B34, B35, B36, B37])))))))))) (List.Perm.trans (List.Perm.cons _ (List.Perm.cons _ (List.Perm.cons _ (List.Perm.cons _ (List.Perm.cons _ (List.Perm.cons _ (List.Perm.cons _ (List.Perm.cons _ (List.Perm.cons _ (List.perm_middle (l₁ := [B0, B1, B2, B3, B4, B5, B6, B7, B8, B9, B10, B11, B12, B13, B14, B15, B16, B17, B18, B21, B22, B23]) (a := B31) (l₂ := [B32, B33, B34, B35, B36, B37]))))))))))) (List.Perm.cons _ (List.Perm.cons _ (List.Perm.cons _ (List.Perm.cons _ (List.Perm.cons _ (List.Perm.cons _ (List.Perm.cons _ (List.Perm.cons _ (List.Perm.cons _ (List.Perm.cons _ (List.perm_middle (l₁ := [B0, B1, B2, B3, B4, B5, B6, B7, B8, B9, B10, B11, B12, B13, B14, B15, B16, B17, B18, B21, B22, B23]) (a := B32) (l₂ := [B33, B34, B35, B36, B37])))))))))))))))))))))
theorem pr_38_19_20_26_27_24_25_28_29_30_31_32 (B0 B1 B2 B3 B4 B5 B6 B7 B8 B9 B10 B11 B12 B13 B14 B15 B16 B17 B18 B19 B20 B21 B22 B23 B24 B25 B26 B27 B28 B29 B30 B31 B32 B33 B34 B35 B36 B37 : va_W) : ([B19, B20, B26, B27, B24, B25, B28, B29, B30, B31, B32] ++ [B0, B1, B2, B3, B4, B5, B6, B7, B8, B9, B10, B11, B12, B13, B14, B15, B16, B17, B18, B21, B22, B23, B33, B34, B35, B36, B37]).Perm [B0, B1, B2, B3, B4, B5, B6, B7, B8, B9, B10, B11, B12, B13, B14, B15, B16, B17, B18, B19, B20, B21, B22, B23, B24, B25, B26, B27, B28, B29, B30, B31, B32, B33, B34, B35, B36, B37] := (pm_38_19_20_26_27_24_25_28_29_30_31_32 B0 B1 B2 B3 B4 B5 B6 B7 B8 B9 B10 B11 B12 B13 B14 B15 B16 B17 B18 B19 B20 B21 B22 B23 B24 B25 B26 B27 B28 B29 B30 B31 B32 B33 B34 B35 B36 B37).symm
theorem pm_38_19_20_27_24_25 (B0 B1 B2 B3 B4 B5 B6 B7 B8 B9 B10 B11 B12 B13 B14 B15 B16 B17 B18 B19 B20 B21 B22 B23 B24 B25 B26 B27 B28 B29 B30 B31 B32 B33 B34 B35 B36 B37 : va_W) : [B0, B1, B2, B3, B4, B5, B6, B7, B8, B9, B10, B11, B12, B13, B14, B15, B16, B17, B18, B19, B20, B21, B22, B23, B24, B25, B26, B27, B28, B29, B30, B31, B32, B33, B34, B35, B36, B37].Perm ([B19, B20, B27, B24, B25] ++ [B0, B1, B2, B3, B4, B5, B6, B7, B8, B9, B10, B11, B12, B13, B14, B15, B16, B17, B18, B21, B22, B23, B26, B28, B29, B30, B31, B32, B33, B34, B35, B36, B37]) := List.Perm.trans (List.perm_middle (l₁ := [B0, B1, B2, B3, B4, B5, B6, B7, B8, B9, B10, B11, B12, B13, B14, B15, B16, B17, B18]) (a := B19) (l₂ := [B20, B21, B22, B23, B24, B25, B26, B27, B28, B29, B30, B31, B32, B33, B34, B35, B36, B37])) (List.Perm.trans (List.Perm.cons _ (List.perm_middle (l₁ := [B0, B1, B2, B3, B4, B5, B6, B7, B8, B9, B10, B11, B12, B13, B14, B15, B16, B17, B18]) (a := B20) (l₂ := [B21, B22, B23, B24, B25, B26, B27, B28, B29, B30, B31, B32, B33, B34, B35, B36, B37]))) (List.Perm.trans (List.Perm.cons _ (List.Perm.cons _ (List.perm_middle (l₁ := [B0, B1, B2, B3, B4, B5, B6, B7, B8, B9, B10, B11, B12, B13, B14, B15, B16, B17, B18, B21, B22, B23, B24, B25, B26]) (a := B27) (l₂ := [B28, B29, B30, B31, B32, B33, B34, B35, B36, B37])))) (List.Perm.trans (List.Perm.cons _ (List.Perm.cons _ (List.Perm.cons _ (List.perm_middle (l₁ := [B0, B1, B2, B3, B4, B5, B6, B7, B8, B9, B10, B11, B12, B13, B14, B15, B16, B17, B18, B21, B22, B23]) (a := B24) (l₂ := [B25, B26, B28, B29, B30, B31, B32, B33, B34, B35, B36, B37]))))) (List.Perm.cons _ (List.Perm.cons _ (List.Perm.cons _ (List.Perm.cons _ (List.perm_middle (l₁ := [B0, B1, B2, B3, B4, B5, B6, B7, B8, B9, B10, B11, B12, B13, B14, B15, B16, B17, B18, B21, B22, B23]) (a := B25) (l₂ := [B26, B28, B29, B30, B31, B32, B33, B34, B35, B36, B37])))))))))
theorem pr_38_19_20_27_24_25 (B0 B1 B2 B3 B4 B5 B6 B7 B8 B9 B10 B11 B12 B13 B14 B15 B16 B17 B18 B19 B20 B21 B22 B23 B24 B25 B26 B27 B28 B29 B30 B31 B32 B33 B34 B35 B36 B37 : va_W) : ([B19, B20, B27, B24, B25] ++ [B0, B1, B2, B3, B4, B5, B6, B7, B8, B9, B10, B11, B12, B13, B14, B15, B16, B17, B18, B21, B22, B23, B26, B28, B29, B30, B31, B32, B33, B34, B35, B36, B37]).Perm [B0, B1, B2, B3, B4, B5, B6, B7, B8, B9, B10, B11, B12, B13, B14, B15, B16, B17, B18, B19, B20, B21, B22, B23, B24, B25, B26, B27, B28, B29, B30, B31, B32, B33, B34, B35, B36, B37] := (pm_38_19_20_27_24_25 B0 B1 B2 B3 B4 B5 B6 B7 B8 B9 B10 B11 B12 B13 B14 B15 B16 B17 B18 B19 B20 B21 B22 B23 B24 B25 B26 B27 B28 B29 B30 B31 B32 B33 B34 B35 B36 B37).symm
theorem pm_38_19_20_29_30_31_32 (B0 B1 B2 B3 B4 B5 B6 B7 B8 B9 B10 B11 B12 B13 B14 B15 B16 B17 B18 B19 B20 B21 B22 B23 B24 B25 B26 B27 B28 B29 B30 B31 B32 B33 B34 B35 B36 B37 : va_W) : [B0, B1, B2, B3, B4, B5, B6, B7, B8, B9, B10, B11, B12, B13, B14, B15, B16, B17, B18, B19, B20, B21, B22, B23, B24, B25, B26, B27, B28, B29, B30, B31, B32, B33, B34, B35, B36, B37].Perm ([B19, B20, B29, B30, B31, B32] ++ [B0, B1, B2, B3, B4, B5, B6, B7, B8, B9, B10, B11, B12, B13, B14, B15, B16, B17, B18, B21, B22, B23, B24, B25, B26, B27, B28, B33, B34, B35, B36, B37]) := List.Perm.trans (List.perm_middle (l₁ := [B0, B1, B2, B3, B4, B5, B6, B7, B8, B9, B10, B11, B12, B13, B14, B15, B16, B17, B18]) (a := B19) (l₂ := [B20, B21, B22, B23, B24, B25, B26, B27, B28, B29, B30, B31, B32, B33, B34, B35, B36, B37])) (List.Perm.trans (List.Perm.cons _ (List.perm_middle (l₁ := [B0, B1, B2, B3, B4, B5, B6, B7, B8, B9, B10, B11, B12, B13, B14, B15, B16, B17, B18]) (a := B20) (l₂ := [B21, B22, B23, B24, B25, B26, B27, B28, B29, B30, B31, B32, B33, B34, B35, B36, B37]))) (List.Perm.trans (List.Perm.cons _ (List.Perm.cons _ (List.perm_middle (l₁ := [B0, B1, B2, B3, B4, B5, B6, B7, B8, B9, B10, B11, B12, B13, B14, B15, B16, B17, B18, B21, B22, B23, B24, B25, B26, B27, B28]) (a := B29) (l₂ := [B30, B31, B32, B33, B34, B35, B36, B37])))) (List.Perm.trans (List.Perm.cons _ (List.Perm.cons _ (List.Perm.cons _ (List.perm_middle (l₁ := [B0, B1, B2, B3, B4, B5, B6, B7, B8, B9, B10, B11, B12, B13, B14, B15, B16, B17, B18, B21, B22, B23, B24, B25, B26, B27, B28]) (a := B30) (l₂ := [B31, B32, B33, B34, B35, B36, B37]))))) (List.Perm.trans (List.Perm.cons _ (List.Perm.cons _ (List.Perm.cons _ (List.Perm.cons _ (List.perm_middle (l₁ := [B0, B1, B2, B3, B4, B5, B6, B7, B8, B9, B10, B11, B12, B13, B14, B15, B16, B17, B18, B21, B22, B23, B24, B25, B26, B27, B28]) (a := B31) (l₂ := [B32, B33, B34, B35, B36, B37])))))) (List.Perm.cons _ (List.Perm.cons _ (List.Perm.cons _ (List.Perm.cons _ (List.Perm.cons _ (List.perm_middle (l₁ := [B0, B1, B2, B3, B4, B5, B6, B7, B8, B9, B10, B11, B12, B13, B14, B15, B16, B17, B18, B21, B22, B23, B24, B25, B26, B27, B28]) (a := B32) (l₂ := [B33, B34, B35, B36, B37])))))))))))
theorem pr_38_19_20_29_30_31_32 (B0 B1 B2 B3 B4 B5 B6 B7 B8 B9 B10 B11 B12 B13 B14 B15 B16 B17 B18 B19 B20 B21 B22 B23 B24 B25 B26 B27 B28 B29 B30 B31 B32 B33 B34 B35 B36 B37 : va_W) : ([B19, B20, B29, B30, B31, B32] ++ [B0, B1, B2, B3, B4, B5, B6, B7, B8, B9, B10, B11, B12, B13, B14, B15, B16, B17, B18, B21, B22, B23, B24, B25, B26, B27, B28, B33, B34, B35, B36, B37]).Perm [B0, B1, B2, B3, B4, B5, B6, B7, B8, B9, B10, B11, B12, B13, B14, B15, B16, B17, B18, B19, B20, B21, B22, B23, B24, B25, B26, B27, B28, B29, B30, B31, B32, B33, B34, B35, B36, B37] := (pm_38_19_20_29_30_31_32 B0 B1 B2 B3 B4 B5 B6 B7 B8 B9 B10 B11 B12 B13 B14 B15 B16 B17 B18 B19 B20 B21 B22 B23 B24 B25 B26 B27 B28 B29 B30 B31 B32 B33 B34 B35 B36 B37).symm
theorem pm_38_19_23 (B0 B1 B2 B3 B4 B5 B6 B7 B8 B9 B10 B11 B12 B13 B14 B15 B16 B17 B18 B19 B20 B21 B22 B23 B24 B25 B26 B27 B28 B29 B30 B31 B32 B33 B34 B35 B36 B37 : va_W) : [B0, B1, B2, B3, B4, B5, B6, B7, B8, B9, B10, B11, B12, B13, B14, B15, B16, B17, B18, B19, B20, B21, B22, B23, B24, B25, B26, B27, B28, B29, B30, B31, B32, B33, B34, B35, B36, B37].Perm ([B19, B23] ++ [B0, B1, B2, B3, B4, B5, B6, B7, B8, B9, B10, B11, B12, B13, B14, B15, B16, B17, B18, B20, B21, B22, B24, B25, B26, B27, B28, B29, B30, B31, B32, B33, B34, B35, B36, B37]) := List.Perm.trans (List.perm_middle (l₁ := [B0, B1, B2, B3, B4, B5, B6, B7, B8, B9, B10, B11, B12, B13, B14, B15, B16, B17, B18]) (a := B19) (l₂ := [B20, B21, B22, B23, B24, B25, B26, B27, B28, B29, B30, B31, B32, B33, B34, B35, B36, B37])) (List.Perm.cons _ (List.perm_middle (l₁ := [B0, B1, B2, B3, B4, B5, B6, B7, B8, B9, B10, B11, B12, B13, B14, B15, B16, B17, B18, B20, B21, B22]) (a := B23) (l₂ := [B24, B25, B26, B27, B28, B29, B30, B31, B32, B33, B34, B35, B36, B37])))
theorem pr_38_19_23 (B0 B1 B2 B3 B4 B5 B6 B7 B8 B9 B10 B11 B12 B13 B14 B15 B16 B17 B18 B19 B20 B21 B22 B23 B24 B25 B26 B27 B28 B29 B30 B31 B32 B33 B34 B35 B36 B37 : va_W) : ([B19, B23] ++ [B0, B1, B2, B3, B4, B5, B6, B7, B8, B9, B10, B11, B12, B13, B14, B15, B16, B17, B18, B20, B21, B22, B24, B25, B26, B27, B28, B29, B30, B31, B32, B33, B34, B35, B36, B37]).Perm [B0, B1, B2, B3, B4, B5, B6, B7, B8, B9, B10, B11, B12, B13, B14, B15, B16, B17, B18, B19, B20, B21, B22, B23, B24, B25, B26, B27, B28, B29, B30, B31, B32, B33, B34, B35, B36, B37] := (pm_38_19_23 B0 B1 B2 B3 B4 B5 B6 B7 B8 B9 B10 B11 B12 B13 B14 B15 B16 B17 B18 B19 B20 B21 B22 B23 B24 B25 B26 B27 B28 B29 B30 B31 B32 B33 B34 B35 B36 B37).symm
set_option maxHeartbeats 1600000 in
set_option maxRecDepth 100000 in
theorem c_law_begin {K : KT} (C : Cx K cL_law 7 RL (some .boolean) room_1) (XK : WX K) (hfl : (kl K).stackTraces = false) {b0 Ls : Nat} {xs : Nat → Int32} (hX : va_X b0 Ls xs (ks K) (ks K).heap) (hbl : b0 < (ks K).heap.size) (hbA : ¬ kA K b0) (hL : Ls ≤ 2560) {q v w9 : Nat} {b tb r m o d a : Nat → Nat} (c : Int) (L : List ((Nat → Nat) × (Int → Int))) (z : Int) (X : Int → Int) (F : Int → Int) (Nx : Int → Int) (f0 : Int → Int) (th : Int → Int) (S : Int → Int) (T : Int → Int) (Xs : Int → Int) (Es : Int → Int) (Ds : Int → Int) (Bs : Int → Int) (O : Int → Int) (t : Int → Int) (Y : Int → Int) (G : Int → Int) (M : Int → Int) (TR : Int → Int) (V : Int → Int) (tt : Int → Int) (D1 : Int → Int) (B1 : Int → Int) (R : Int → Int) (N1 : Int → Int) (BR : Int → Int) (X1 : Int → Int) (L1 : Int → Int) (F1 : Int → Int) (Y1 : Int → Int) (w1 : Int → Int) (w2 : Int → Int) (w3 : Int → Int) (w4 : Int → Int) (w5 : Int → Int) {ce sl : Nat} (hce : ce ≤ 600000) (hsl : sl ≤ 7000000) {i : Int} (hi : 0 ≤ i ∧ i + 5 ≤ (Ls : Int)) (hrel : LRel S c L O t G M V) (htt : t = tt) (kk : KK K b0 q v w9 b tb r m o d a i ce sl) : J K ce sl [[(w9, lJ ((kC K) 3) 1 Y)], prO q v b tb r m o c, svB (kC K) v L, rgO r (d 0) z, dbO d, [(d 1, aJ ((kC K) 0) 49 X)], [(d 2, aJ ((kC K) 0) 49 F)], [(d 3, aJ ((kC K) 0) 40 Nx)], [(r 1, aJ ((kC K) 0) 2365 f0)], [(r 2, aJ ((kC K) 0) 49 th)], bk (kC K) b S, bk (kC K) tb T, rmO m, [(m 1, aJ ((kC K) 0) 40 Xs)], [(m 2, aJ ((kC K) 0) 7 Es)], [(m 3, aJ ((kC K) 0) 7 Ds)], [(m 4, aJ ((kC K) 0) 7 Bs)], orO o O, [(o 1, aJ ((kC K) 0) 100 t)], mO a G, [(a 1, aJ ((kC K) 0) 325 M)], [(a 2, aJ ((kC K) 0) 325 TR)], [(a 3, aJ ((kC K) 0) 1300 V)], [(a 4, aJ ((kC K) 0) 100 tt)], [(a 5, aJ ((kC K) 0) 49 D1)], [(a 6, aJ ((kC K) 0) 490 B1)], [(a 7, aJ ((kC K) 0) 8 R)], [(a 8, aJ ((kC K) 0) 9 N1)], [(a 9, aJ ((kC K) 0) 8 BR)], [(a 10, aJ ((kC K) 0) 40 X1)], [(a 11, aJ ((kC K) 0) 7 L1)], [(a 12, aJ ((kC K) 0) 7 F1)], [(a 13, aJ ((kC K) 0) 7 Y1)], [(a 14, aJ ((kC K) 0) 50 w1)], [(a 15, aJ ((kC K) 0) 50 w2)], [(a 16, aJ ((kC K) 0) 50 w3)], [(a 17, aJ ((kC K) 0) 50 w4)], [(a 18, aJ ((kC K) 0) 50 w5)]] [some (.ref b0), some (.ref q), some (.ref (a 0)), some (.ref w9), some (.int (iI i)), none, none] 156 [] := by
  subst htt
  have hI := hrel.1.1
  have hz := hrel.1.2.1
  have hAg := hrel.1.2.2
  have hc : 0 ≤ c ∧ c ≤ 4 ∧ c ≤ (L.length : Int) ∧ L.length ≤ 4 := hrel.2.1.1
  have hLz := hrel.2.1.2.1
  have hg0 := hrel.2.2.1.1
  have hg1 := hrel.2.2.1.2
  have ht := hrel.2.2.2
  have hO : 0 ≤ O 0 ∧ O 0 ≤ 100 := ht.1
  have hN := hI.2.1
  have hQ := hI.1
  have hcp := cp_Inv (T := T) hI
  have hb1 := gX_bd xs (i + 1)
  have hb2 := gX_bd xs (i + 2)
  have hb3 := gX_bd xs (i + 3)
  have hb4 := gX_bd xs (i + 4)
  refine j_aload_n C dL_law_156 rfl ?_
  refine j_aload_n C dL_law_157 rfl ?_
  refine j_iload C dL_law_158 rfl ?_
  refine j_iconst C dL_law_160 ?_
  refine j_iadd C dL_law_161 ?_
  refine j_sld C hX hbl hbA hL dL_law_162 (by omega) (by omega) ?_
  refine j_aload_n C dL_law_163 rfl ?_
  refine j_perm (pm_38_0_1_2_10 _ _ _ _ _ _ _ _ _ _ _ _ _ _ _ _ _ _ _ _ _ _ _ _ _ _ _ _ _ _ _ _ _ _ _ _ _ _) ?_
  refine j_callW C XK (As := [.ref _, .int (iI _), .ref _]) (c_L_begin _ _ _ _ _ _ _ _ _ _ (d) _ _ _ _ _ _ (by first | assumption | omega) (by first | assumption | omega) (by first | assumption | omega) (by first | assumption | omega) (by first | assumption | omega)) 3 nf_L_begin.2 wL_L_77 wS_L_begin wIn_L wC_L_begin rfl rfl (by decide) dL_law_164 (Nat.le_of_ble_eq_true rfl) ⟨by dsimp only [rmN, room_1]; omega, by dsimp only [rmN, room_1]; omega⟩ (fun x164 u164 h164 => ?_)
  refine j_perm (pr_38_0_1_2_10 _ _ _ _ _ _ _ _ _ _ _ _ _ _ _ _ _ _ _ _ _ _ _ _ _ _ _ _ _ _ _ _ _ _ _ _ _ _) ?_
  refine j_ist_5 C dL_law_167 rfl ?_
  refine j_aload_n C dL_law_169 rfl ?_
  refine j_aload_n C dL_law_170 rfl ?_
  refine j_iload C dL_law_171 rfl ?_
  refine j_iconst C dL_law_173 ?_
  refine j_iadd C dL_law_174 ?_
  refine j_sld C hX hbl hbA hL dL_law_175 (by omega) (by omega) ?_
  refine j_perm (pm_38_19_20_22 _ _ _ _ _ _ _ _ _ _ _ _ _ _ _ _ _ _ _ _ _ _ _ _ _ _ _ _ _ _ _ _ _ _ _ _ _ _) ?_
  refine j_callVi C (As := [.int (iI _)]) (c_X6_begin _ _ _ _ _ _ _ (S) _ (by first | assumption | omega) (by first | assumption | omega) (by first | assumption | omega) (by first | assumption | omega)) 1 nf_X6_begin (jb := 0) rfl rfl wL_L_82 wI_X6_begin wSe_X6_X6_begin wIn_X6 wC_X6_begin rfl rfl (by decide) dL_law_176 (Nat.le_of_ble_eq_true rfl) ⟨by dsimp only [rmN, room_1]; omega, by dsimp only [rmN, room_1]; omega⟩ (fun x176 u176 h176 => ?_)
  refine j_perm (pr_38_19_20_22 _ _ _ _ _ _ _ _ _ _ _ _ _ _ _ _ _ _ _ _ _ _ _ _ _ _ _ _ _ _ _ _ _ _ _ _ _ _) ?_
  have hC : u176.1 2 = x164 ∧ (x164 = 0 → u164.2.2.2 0 = ndI x176) ∧ LRel (u164.2.2.1) (u164.1) (u164.2.1) O t u176.1 (u176.2.1) (u176.2.2) := by
    rcases h164 with ⟨A0, A1, A2, A3, A4⟩ | ⟨A0, A1, A2, A3, A4⟩ <;> rcases h176 with ⟨P0, P1, P2, P3⟩ | ⟨P0, ⟨M1, V1⟩, Br⟩ <;> first | (exact ⟨P3.2.2.2.trans A1.symm, fun _ => A2.trans (congrArg ndI P1.symm), by rw [A4]; exact rel_save hrel A3 (rstP_Inv A0) (rstP_Inz hz) P2 P3⟩) | (exact ⟨Br.2.2.trans A1.symm, fun h => absurd (A1.symm.trans h) (by decide), by rw [A2, A3, A4, M1, V1]; exact rel_keep hrel Br⟩) | (exfalso; omega)
  obtain ⟨hC1, hC2, hC3⟩ := hC
  have hC4 : t = t := rfl
  have hx : 0 ≤ x164 ∧ x164 ≤ 3 := by rcases h164 with ⟨A0, A1, A2, A3, A4⟩ | ⟨A0, A1, A2, A3, A4⟩ <;> omega
  refine j_ist_6 C dL_law_179 rfl ?_
  refine j_aload_n C dL_law_181 rfl ?_
  refine j_perm (pm_38_19 _ _ _ _ _ _ _ _ _ _ _ _ _ _ _ _ _ _ _ _ _ _ _ _ _ _ _ _ _ _ _ _ _ _ _ _ _ _) ?_
  refine j_callVi C (As := []) (c_X6_thrown _ _ _ _ _ ) 0 nf_X6_thrown (jb := 0) rfl rfl wL_L_83 wI_X6_thrown wSe_X6_X6_thrown wIn_X6 wC_X6_thrown rfl rfl (by decide) dL_law_182 (Nat.le_of_ble_eq_true rfl) ⟨by dsimp only [rmN, room_1]; omega, by dsimp only [rmN, room_1]; omega⟩ (fun x182 u182 h182 => ?_)
  refine j_perm (pr_38_19 _ _ _ _ _ _ _ _ _ _ _ _ _ _ _ _ _ _ _ _ _ _ _ _ _ _ _ _ _ _ _ _ _ _ _ _ _ _) ?_
  refine j_iload C dL_law_185 rfl ?_
  refine j_icmpE (tgt := 192) C dL_law_187 (by decide) (by exact h182.trans hC1) ?_
  refine j_iload C dL_law_192 rfl ?_
  refine j_if_ne (tgt := 209) C dL_law_194 (by decide) (by omega) (by omega) (fun c194 => ?_) (fun c194 => ?_)
  · refine j_goto (tgt := 1341) C dL_law_209 (by decide) ?_
    exact j_lle (lv' := [_, _, _, _, _, none, none]) ⟨Or.inr rfl, ⟨Or.inr rfl, ⟨Or.inr rfl, ⟨Or.inr rfl, ⟨Or.inr rfl, ⟨Or.inl rfl, ⟨Or.inl rfl, trivial⟩⟩⟩⟩⟩⟩⟩ (j_widen (ce' := ce + 9) (sl' := sl + 333) (by first | omega | (dsimp only [rmN]; omega)) (by first | omega | (dsimp only [rmN]; omega)) (kk _ _ _ _ _ _ _ _ _ _ _ _ _ _ _ _ _ _ _ _ _ _ _ _ _ _ _ _ _ _ _ _ _ _ _ _ hC3 hC4))
  · refine j_aload_n C dL_law_197 rfl ?_
    refine j_iconst C dL_law_198 ?_
    refine j_lald C 0 0 rfl rfl dL_law_199 (by decide) (by omega) (by omega) ?_
    refine j_iload C dL_law_200 rfl ?_
    refine j_i2lN C dL_law_202 ?_
    refine j_lcmpE C dL_law_203 (by exact hC2 c194) ?_
    refine j_if_eq (tgt := 209) C dL_law_204 (by decide) (by omega) (by omega) (fun c204 => ?_) (fun c204 => ?_)
    · refine j_goto (tgt := 1341) C dL_law_209 (by decide) ?_
      exact j_lle (lv' := [_, _, _, _, _, none, none]) ⟨Or.inr rfl, ⟨Or.inr rfl, ⟨Or.inr rfl, ⟨Or.inr rfl, ⟨Or.inr rfl, ⟨Or.inl rfl, ⟨Or.inl rfl, trivial⟩⟩⟩⟩⟩⟩⟩ (j_widen (ce' := ce + 9) (sl' := sl + 333) (by first | omega | (dsimp only [rmN]; omega)) (by first | omega | (dsimp only [rmN]; omega)) (kk _ _ _ _ _ _ _ _ _ _ _ _ _ _ _ _ _ _ _ _ _ _ _ _ _ _ _ _ _ _ _ _ _ _ _ _ hC3 hC4))
    · exact absurd rfl c204
set_option maxHeartbeats 1600000 in
set_option maxRecDepth 100000 in
theorem c_law_promise {K : KT} (C : Cx K cL_law 7 RL (some .boolean) room_1) (XK : WX K) (hfl : (kl K).stackTraces = false) {b0 Ls : Nat} {xs : Nat → Int32} (hX : va_X b0 Ls xs (ks K) (ks K).heap) (hbl : b0 < (ks K).heap.size) (hbA : ¬ kA K b0) (hL : Ls ≤ 2560) {q v w9 : Nat} {b tb r m o d a : Nat → Nat} (c : Int) (L : List ((Nat → Nat) × (Int → Int))) (z : Int) (X : Int → Int) (F : Int → Int) (Nx : Int → Int) (f0 : Int → Int) (th : Int → Int) (S : Int → Int) (T : Int → Int) (Xs : Int → Int) (Es : Int → Int) (Ds : Int → Int) (Bs : Int → Int) (O : Int → Int) (t : Int → Int) (Y : Int → Int) (G : Int → Int) (M : Int → Int) (TR : Int → Int) (V : Int → Int) (tt : Int → Int) (D1 : Int → Int) (B1 : Int → Int) (R : Int → Int) (N1 : Int → Int) (BR : Int → Int) (X1 : Int → Int) (L1 : Int → Int) (F1 : Int → Int) (Y1 : Int → Int) (w1 : Int → Int) (w2 : Int → Int) (w3 : Int → Int) (w4 : Int → Int) (w5 : Int → Int) {ce sl : Nat} (hce : ce ≤ 600000) (hsl : sl ≤ 7000000) {i : Int} (hi : 0 ≤ i ∧ i + 5 ≤ (Ls : Int)) (hrel : LRel S c L O t G M V) (htt : t = tt) (kk : KK K b0 q v w9 b tb r m o d a i ce sl) : J K ce sl [[(w9, lJ ((kC K) 3) 1 Y)], prO q v b tb r m o c, svB (kC K) v L, rgO r (d 0) z, dbO d, [(d 1, aJ ((kC K) 0) 49 X)], [(d 2, aJ ((kC K) 0) 49 F)], [(d 3, aJ ((kC K) 0) 40 Nx)], [(r 1, aJ ((kC K) 0) 2365 f0)], [(r 2, aJ ((kC K) 0) 49 th)], bk (kC K) b S, bk (kC K) tb T, rmO m, [(m 1, aJ ((kC K) 0) 40 Xs)], [(m 2, aJ ((kC K) 0) 7 Es)], [(m 3, aJ ((kC K) 0) 7 Ds)], [(m 4, aJ ((kC K) 0) 7 Bs)], orO o O, [(o 1, aJ ((kC K) 0) 100 t)], mO a G, [(a 1, aJ ((kC K) 0) 325 M)], [(a 2, aJ ((kC K) 0) 325 TR)], [(a 3, aJ ((kC K) 0) 1300 V)], [(a 4, aJ ((kC K) 0) 100 tt)], [(a 5, aJ ((kC K) 0) 49 D1)], [(a 6, aJ ((kC K) 0) 490 B1)], [(a 7, aJ ((kC K) 0) 8 R)], [(a 8, aJ ((kC K) 0) 9 N1)], [(a 9, aJ ((kC K) 0) 8 BR)], [(a 10, aJ ((kC K) 0) 40 X1)], [(a 11, aJ ((kC K) 0) 7 L1)], [(a 12, aJ ((kC K) 0) 7 F1)], [(a 13, aJ ((kC K) 0) 7 Y1)], [(a 14, aJ ((kC K) 0) 50 w1)], [(a 15, aJ ((kC K) 0) 50 w2)], [(a 16, aJ ((kC K) 0) 50 w3)], [(a 17, aJ ((kC K) 0) 50 w4)], [(a 18, aJ ((kC K) 0) 50 w5)]] [some (.ref b0), some (.ref q), some (.ref (a 0)), some (.ref w9), some (.int (iI i)), none, none] 212 [] := by
  subst htt
  have hI := hrel.1.1
  have hz := hrel.1.2.1
  have hAg := hrel.1.2.2
  have hc : 0 ≤ c ∧ c ≤ 4 ∧ c ≤ (L.length : Int) ∧ L.length ≤ 4 := hrel.2.1.1
  have hLz := hrel.2.1.2.1
  have hg0 := hrel.2.2.1.1
  have hg1 := hrel.2.2.1.2
  have ht := hrel.2.2.2
  have hO : 0 ≤ O 0 ∧ O 0 ≤ 100 := ht.1
  have hN := hI.2.1
  have hQ := hI.1
  have hcp := cp_Inv (T := T) hI
  have hb1 := gX_bd xs (i + 1)
  have hb2 := gX_bd xs (i + 2)
  have hb3 := gX_bd xs (i + 3)
  have hb4 := gX_bd xs (i + 4)
  refine j_aload_n C dL_law_212 rfl ?_
  refine j_aload_n C dL_law_213 rfl ?_
  refine j_iload C dL_law_214 rfl ?_
  refine j_iconst C dL_law_216 ?_
  refine j_iadd C dL_law_217 ?_
  refine j_sld C hX hbl hbA hL dL_law_218 (by omega) (by omega) ?_
  refine j_aload_n C dL_law_219 rfl ?_
  refine j_iload C dL_law_220 rfl ?_
  refine j_iconst C dL_law_222 ?_
  refine j_iadd C dL_law_223 ?_
  refine j_sld C hX hbl hbA hL dL_law_224 (by omega) (by omega) ?_
  refine j_aload_n C dL_law_225 rfl ?_
  refine j_iload C dL_law_226 rfl ?_
  refine j_iconst C dL_law_228 ?_
  refine j_iadd C dL_law_229 ?_
  refine j_sld C hX hbl hbA hL dL_law_230 (by omega) (by omega) ?_
  refine j_aload_n C dL_law_231 rfl ?_
  refine j_iload C dL_law_232 rfl ?_
  refine j_iconst C dL_law_234 ?_
  refine j_iadd C dL_law_235 ?_
  refine j_sld C hX hbl hbA hL dL_law_236 (by omega) (by omega) ?_
  refine j_aload_n C dL_law_237 rfl ?_
  refine j_perm (pm_38_0_1_2_10 _ _ _ _ _ _ _ _ _ _ _ _ _ _ _ _ _ _ _ _ _ _ _ _ _ _ _ _ _ _ _ _ _ _ _ _ _ _) ?_
  refine j_callW C XK (As := [.ref _, .int (iI _), .int (iI _), .int (iI _), .int (iI _), .ref _]) (c_L_promise _ _ _ _ _ _ _ _ _ _ (d) _ _ _ _ _ _ _ _ _ (by first | assumption | omega) (by first | assumption | omega) (by first | assumption | omega) (by first | assumption | omega) (by first | assumption | omega) (by first | assumption | omega) (by first | assumption | omega) (by first | assumption | omega)) 6 nf_L_promise.2 wL_L_86 wS_L_promise wIn_L wC_L_promise rfl rfl (by decide) dL_law_238 (Nat.le_of_ble_eq_true rfl) ⟨by dsimp only [rmN, room_1]; omega, by dsimp only [rmN, room_1]; omega⟩ (fun x238 u238 h238 => ?_)
  refine j_perm (pr_38_0_1_2_10 _ _ _ _ _ _ _ _ _ _ _ _ _ _ _ _ _ _ _ _ _ _ _ _ _ _ _ _ _ _ _ _ _ _ _ _ _ _) ?_
  refine j_ist_5 C dL_law_241 rfl ?_
  refine j_aload_n C dL_law_243 rfl ?_
  refine j_aload_n C dL_law_244 rfl ?_
  refine j_iload C dL_law_245 rfl ?_
  refine j_iconst C dL_law_247 ?_
  refine j_iadd C dL_law_248 ?_
  refine j_sld C hX hbl hbA hL dL_law_249 (by omega) (by omega) ?_
  refine j_aload_n C dL_law_250 rfl ?_
  refine j_iload C dL_law_251 rfl ?_
  refine j_iconst C dL_law_253 ?_
  refine j_iadd C dL_law_254 ?_
  refine j_sld C hX hbl hbA hL dL_law_255 (by omega) (by omega) ?_
  refine j_aload_n C dL_law_256 rfl ?_
  refine j_iload C dL_law_257 rfl ?_
  refine j_iconst C dL_law_259 ?_
  refine j_iadd C dL_law_260 ?_
  refine j_sld C hX hbl hbA hL dL_law_261 (by omega) (by omega) ?_
  refine j_aload_n C dL_law_262 rfl ?_
  refine j_iload C dL_law_263 rfl ?_
  refine j_iconst C dL_law_265 ?_
  refine j_iadd C dL_law_266 ?_
  refine j_sld C hX hbl hbA hL dL_law_267 (by omega) (by omega) ?_
  refine j_perm (pm_38_19_20_22 _ _ _ _ _ _ _ _ _ _ _ _ _ _ _ _ _ _ _ _ _ _ _ _ _ _ _ _ _ _ _ _ _ _ _ _ _ _) ?_
  refine j_callVi C (As := [.int (iI _), .int (iI _), .int (iI _), .int (iI _)]) (c_X6_promise _ _ _ _ _ _ _ (S) _ _ _ _ (by first | assumption | omega) (by first | assumption | omega) (by first | assumption | omega) (by first | assumption | omega) (by first | assumption | omega) (by first | assumption | omega) (by first | assumption | omega)) 4 nf_X6_promise (jb := 0) rfl rfl wL_L_89 wI_X6_promise wSe_X6_X6_promise wIn_X6 wC_X6_promise rfl rfl (by decide) dL_law_268 (Nat.le_of_ble_eq_true rfl) ⟨by dsimp only [rmN, room_1]; omega, by dsimp only [rmN, room_1]; omega⟩ (fun x268 u268 h268 => ?_)
  refine j_perm (pr_38_19_20_22 _ _ _ _ _ _ _ _ _ _ _ _ _ _ _ _ _ _ _ _ _ _ _ _ _ _ _ _ _ _ _ _ _ _ _ _ _ _) ?_
  have hC : u268.1 2 = x238 ∧ (x238 = 0 → u238.2.2.2 0 = ndI x268) ∧ LRel (u238.2.2.1) (u238.1) (u238.2.1) O t u268.1 (u268.2.1) (u268.2.2) := by
    rcases h238 with ⟨A0, A1, A2, A3, A4⟩ | ⟨A0, A1, A2, A3, A4⟩ | ⟨A0, A1, A2, A3, A4⟩ | ⟨A0, A1, A2, A3, A4⟩ <;> rcases h268 with ⟨P0, P1, P2, P3⟩ | ⟨⟨M1, V1⟩, ⟨P0, Br⟩ | ⟨P0, P4, Br⟩ | ⟨P0, P4, P5, Br⟩⟩ <;> first | (exact ⟨P3.2.2.2.trans A1.symm, fun _ => A2.trans (congrArg ndI P1.symm), by rw [A4]; exact rel_save hrel A3 (addP_Inv hI (by omega) (by omega) (by omega) (by omega) (by omega) (by omega)) (addP_Inz hz hN.1) P2 P3⟩) | (exact ⟨Br.2.2.trans A1.symm, fun h => absurd (A1.symm.trans h) (by decide), by rw [A2, A3, A4, M1, V1]; exact rel_keep hrel Br⟩) | (exfalso; omega)
  obtain ⟨hC1, hC2, hC3⟩ := hC
  have hC4 : t = t := rfl
  have hx : 0 ≤ x238 ∧ x238 ≤ 3 := by rcases h238 with ⟨A0, A1, A2, A3, A4⟩ | ⟨A0, A1, A2, A3, A4⟩ | ⟨A0, A1, A2, A3, A4⟩ | ⟨A0, A1, A2, A3, A4⟩ <;> omega
  refine j_ist_6 C dL_law_271 rfl ?_
  refine j_aload_n C dL_law_273 rfl ?_
  refine j_perm (pm_38_19 _ _ _ _ _ _ _ _ _ _ _ _ _ _ _ _ _ _ _ _ _ _ _ _ _ _ _ _ _ _ _ _ _ _ _ _ _ _) ?_
  refine j_callVi C (As := []) (c_X6_thrown _ _ _ _ _ ) 0 nf_X6_thrown (jb := 0) rfl rfl wL_L_83 wI_X6_thrown wSe_X6_X6_thrown wIn_X6 wC_X6_thrown rfl rfl (by decide) dL_law_274 (Nat.le_of_ble_eq_true rfl) ⟨by dsimp only [rmN, room_1]; omega, by dsimp only [rmN, room_1]; omega⟩ (fun x274 u274 h274 => ?_)
  refine j_perm (pr_38_19 _ _ _ _ _ _ _ _ _ _ _ _ _ _ _ _ _ _ _ _ _ _ _ _ _ _ _ _ _ _ _ _ _ _ _ _ _ _) ?_
  refine j_iload C dL_law_277 rfl ?_
  refine j_icmpE (tgt := 284) C dL_law_279 (by decide) (by exact h274.trans hC1) ?_
  refine j_iload C dL_law_284 rfl ?_
  refine j_if_ne (tgt := 301) C dL_law_286 (by decide) (by omega) (by omega) (fun c286 => ?_) (fun c286 => ?_)
  · refine j_goto (tgt := 1341) C dL_law_301 (by decide) ?_
    exact j_lle (lv' := [_, _, _, _, _, none, none]) ⟨Or.inr rfl, ⟨Or.inr rfl, ⟨Or.inr rfl, ⟨Or.inr rfl, ⟨Or.inr rfl, ⟨Or.inl rfl, ⟨Or.inl rfl, trivial⟩⟩⟩⟩⟩⟩⟩ (j_widen (ce' := ce + 9) (sl' := sl + 333) (by first | omega | (dsimp only [rmN]; omega)) (by first | omega | (dsimp only [rmN]; omega)) (kk _ _ _ _ _ _ _ _ _ _ _ _ _ _ _ _ _ _ _ _ _ _ _ _ _ _ _ _ _ _ _ _ _ _ _ _ hC3 hC4))
  · refine j_aload_n C dL_law_289 rfl ?_
    refine j_iconst C dL_law_290 ?_
    refine j_lald C 0 0 rfl rfl dL_law_291 (by decide) (by omega) (by omega) ?_
    refine j_iload C dL_law_292 rfl ?_
    refine j_i2lN C dL_law_294 ?_
    refine j_lcmpE C dL_law_295 (by exact hC2 c286) ?_
    refine j_if_eq (tgt := 301) C dL_law_296 (by decide) (by omega) (by omega) (fun c296 => ?_) (fun c296 => ?_)
    · refine j_goto (tgt := 1341) C dL_law_301 (by decide) ?_
      exact j_lle (lv' := [_, _, _, _, _, none, none]) ⟨Or.inr rfl, ⟨Or.inr rfl, ⟨Or.inr rfl, ⟨Or.inr rfl, ⟨Or.inr rfl, ⟨Or.inl rfl, ⟨Or.inl rfl, trivial⟩⟩⟩⟩⟩⟩⟩ (j_widen (ce' := ce + 9) (sl' := sl + 333) (by first | omega | (dsimp only [rmN]; omega)) (by first | omega | (dsimp only [rmN]; omega)) (kk _ _ _ _ _ _ _ _ _ _ _ _ _ _ _ _ _ _ _ _ _ _ _ _ _ _ _ _ _ _ _ _ _ _ _ _ hC3 hC4))
    · exact absurd rfl c296
set_option maxHeartbeats 1600000 in
set_option maxRecDepth 100000 in
theorem c_law_pay {K : KT} (C : Cx K cL_law 7 RL (some .boolean) room_1) (XK : WX K) (hfl : (kl K).stackTraces = false) {b0 Ls : Nat} {xs : Nat → Int32} (hX : va_X b0 Ls xs (ks K) (ks K).heap) (hbl : b0 < (ks K).heap.size) (hbA : ¬ kA K b0) (hL : Ls ≤ 2560) {q v w9 : Nat} {b tb r m o d a : Nat → Nat} (c : Int) (L : List ((Nat → Nat) × (Int → Int))) (z : Int) (X : Int → Int) (F : Int → Int) (Nx : Int → Int) (f0 : Int → Int) (th : Int → Int) (S : Int → Int) (T : Int → Int) (Xs : Int → Int) (Es : Int → Int) (Ds : Int → Int) (Bs : Int → Int) (O : Int → Int) (t : Int → Int) (Y : Int → Int) (G : Int → Int) (M : Int → Int) (TR : Int → Int) (V : Int → Int) (tt : Int → Int) (D1 : Int → Int) (B1 : Int → Int) (R : Int → Int) (N1 : Int → Int) (BR : Int → Int) (X1 : Int → Int) (L1 : Int → Int) (F1 : Int → Int) (Y1 : Int → Int) (w1 : Int → Int) (w2 : Int → Int) (w3 : Int → Int) (w4 : Int → Int) (w5 : Int → Int) {ce sl : Nat} (hce : ce ≤ 600000) (hsl : sl ≤ 7000000) {i : Int} (hi : 0 ≤ i ∧ i + 5 ≤ (Ls : Int)) (hrel : LRel S c L O t G M V) (htt : t = tt) (kk : KK K b0 q v w9 b tb r m o d a i ce sl) : J K ce sl [[(w9, lJ ((kC K) 3) 1 Y)], prO q v b tb r m o c, svB (kC K) v L, rgO r (d 0) z, dbO d, [(d 1, aJ ((kC K) 0) 49 X)], [(d 2, aJ ((kC K) 0) 49 F)], [(d 3, aJ ((kC K) 0) 40 Nx)], [(r 1, aJ ((kC K) 0) 2365 f0)], [(r 2, aJ ((kC K) 0) 49 th)], bk (kC K) b S, bk (kC K) tb T, rmO m, [(m 1, aJ ((kC K) 0) 40 Xs)], [(m 2, aJ ((kC K) 0) 7 Es)], [(m 3, aJ ((kC K) 0) 7 Ds)], [(m 4, aJ ((kC K) 0) 7 Bs)], orO o O, [(o 1, aJ ((kC K) 0) 100 t)], mO a G, [(a 1, aJ ((kC K) 0) 325 M)], [(a 2, aJ ((kC K) 0) 325 TR)], [(a 3, aJ ((kC K) 0) 1300 V)], [(a 4, aJ ((kC K) 0) 100 tt)], [(a 5, aJ ((kC K) 0) 49 D1)], [(a 6, aJ ((kC K) 0) 490 B1)], [(a 7, aJ ((kC K) 0) 8 R)], [(a 8, aJ ((kC K) 0) 9 N1)], [(a 9, aJ ((kC K) 0) 8 BR)], [(a 10, aJ ((kC K) 0) 40 X1)], [(a 11, aJ ((kC K) 0) 7 L1)], [(a 12, aJ ((kC K) 0) 7 F1)], [(a 13, aJ ((kC K) 0) 7 Y1)], [(a 14, aJ ((kC K) 0) 50 w1)], [(a 15, aJ ((kC K) 0) 50 w2)], [(a 16, aJ ((kC K) 0) 50 w3)], [(a 17, aJ ((kC K) 0) 50 w4)], [(a 18, aJ ((kC K) 0) 50 w5)]] [some (.ref b0), some (.ref q), some (.ref (a 0)), some (.ref w9), some (.int (iI i)), none, none] 304 [] := by
  subst htt
  have hI := hrel.1.1
  have hz := hrel.1.2.1
  have hAg := hrel.1.2.2
  have hc : 0 ≤ c ∧ c ≤ 4 ∧ c ≤ (L.length : Int) ∧ L.length ≤ 4 := hrel.2.1.1
  have hLz := hrel.2.1.2.1
  have hg0 := hrel.2.2.1.1
  have hg1 := hrel.2.2.1.2
  have ht := hrel.2.2.2
  have hO : 0 ≤ O 0 ∧ O 0 ≤ 100 := ht.1
  have hN := hI.2.1
  have hQ := hI.1
  have hcp := cp_Inv (T := T) hI
  have hb1 := gX_bd xs (i + 1)
  have hb2 := gX_bd xs (i + 2)
  have hb3 := gX_bd xs (i + 3)
  have hb4 := gX_bd xs (i + 4)
  refine j_aload_n C dL_law_304 rfl ?_
  refine j_aload_n C dL_law_305 rfl ?_
  refine j_iload C dL_law_306 rfl ?_
  refine j_iconst C dL_law_308 ?_
  refine j_iadd C dL_law_309 ?_
  refine j_sld C hX hbl hbA hL dL_law_310 (by omega) (by omega) ?_
  refine j_aload_n C dL_law_311 rfl ?_
  refine j_iload C dL_law_312 rfl ?_
  refine j_iconst C dL_law_314 ?_
  refine j_iadd C dL_law_315 ?_
  refine j_sld C hX hbl hbA hL dL_law_316 (by omega) (by omega) ?_
  refine j_aload_n C dL_law_317 rfl ?_
  refine j_perm (pm_38_0_1_2_10 _ _ _ _ _ _ _ _ _ _ _ _ _ _ _ _ _ _ _ _ _ _ _ _ _ _ _ _ _ _ _ _ _ _ _ _ _ _) ?_
  refine j_callW C XK (As := [.ref _, .int (iI _), .int (iI _), .ref _]) (c_L_pay _ _ _ _ _ _ _ _ _ _ (d) _ _ _ _ _ _ _ (by first | assumption | omega) (by first | assumption | omega) (by first | assumption | omega) (by first | assumption | omega) (by first | assumption | omega) (by first | assumption | omega)) 4 nf_L_pay.2 wL_L_90 wS_L_pay wIn_L wC_L_pay rfl rfl (by decide) dL_law_318 (Nat.le_of_ble_eq_true rfl) ⟨by dsimp only [rmN, room_1]; omega, by dsimp only [rmN, room_1]; omega⟩ (fun x318 u318 h318 => ?_)
  refine j_perm (pr_38_0_1_2_10 _ _ _ _ _ _ _ _ _ _ _ _ _ _ _ _ _ _ _ _ _ _ _ _ _ _ _ _ _ _ _ _ _ _ _ _ _ _) ?_
  refine j_ist_5 C dL_law_321 rfl ?_
  refine j_aload_n C dL_law_323 rfl ?_
  refine j_aload_n C dL_law_324 rfl ?_
  refine j_iload C dL_law_325 rfl ?_
  refine j_iconst C dL_law_327 ?_
  refine j_iadd C dL_law_328 ?_
  refine j_sld C hX hbl hbA hL dL_law_329 (by omega) (by omega) ?_
  refine j_aload_n C dL_law_330 rfl ?_
  refine j_iload C dL_law_331 rfl ?_
  refine j_iconst C dL_law_333 ?_
  refine j_iadd C dL_law_334 ?_
  refine j_sld C hX hbl hbA hL dL_law_335 (by omega) (by omega) ?_
  refine j_perm (pm_38_19_20_22 _ _ _ _ _ _ _ _ _ _ _ _ _ _ _ _ _ _ _ _ _ _ _ _ _ _ _ _ _ _ _ _ _ _ _ _ _ _) ?_
  refine j_callVi C (As := [.int (iI _), .int (iI _)]) (c_X6_pay _ _ _ _ _ _ _ (S) _ _ (by first | assumption | omega) (by first | assumption | omega) (by first | assumption | omega) (by first | assumption | omega) (by first | assumption | omega)) 2 nf_X6_pay (jb := 0) rfl rfl wL_L_93 wI_X6_pay wSe_X6_X6_pay wIn_X6 wC_X6_pay rfl rfl (by decide) dL_law_336 (Nat.le_of_ble_eq_true rfl) ⟨by dsimp only [rmN, room_1]; omega, by dsimp only [rmN, room_1]; omega⟩ (fun x336 u336 h336 => ?_)
  refine j_perm (pr_38_19_20_22 _ _ _ _ _ _ _ _ _ _ _ _ _ _ _ _ _ _ _ _ _ _ _ _ _ _ _ _ _ _ _ _ _ _ _ _ _ _) ?_
  have hC : u336.1 2 = x318 ∧ (x318 = 0 → u318.2.2.2 0 = ndI x336) ∧ LRel (u318.2.2.1) (u318.1) (u318.2.1) O t u336.1 (u336.2.1) (u336.2.2) := by
    rcases h318 with ⟨A0, A1, A2, A3, A4⟩ | ⟨A0, A1, A2, A3, A4⟩ | ⟨A0, A1, A2, A3, A4⟩ | ⟨A0, A1, A2, A3, A4⟩ <;> rcases h336 with ⟨P0, P1, P2, P3⟩ | ⟨⟨M1, V1⟩, ⟨P0, Br⟩ | ⟨P0, P4, Br⟩ | ⟨P0, P4, P5, Br⟩⟩ <;> first | (exact ⟨P3.2.2.2.trans A1.symm, fun _ => A2.trans (congrArg ndI P1.symm), by rw [A4]; exact rel_save hrel A3 (payP_Inv hI A0.1.1 A0.2) (payP_Inz hz) P2 P3⟩) | (exact ⟨Br.2.2.trans A1.symm, fun h => absurd (A1.symm.trans h) (by decide), by rw [A2, A3, A4, M1, V1]; exact rel_keep hrel Br⟩) | (exfalso; omega)
  obtain ⟨hC1, hC2, hC3⟩ := hC
  have hC4 : t = t := rfl
  have hx : 0 ≤ x318 ∧ x318 ≤ 3 := by rcases h318 with ⟨A0, A1, A2, A3, A4⟩ | ⟨A0, A1, A2, A3, A4⟩ | ⟨A0, A1, A2, A3, A4⟩ | ⟨A0, A1, A2, A3, A4⟩ <;> omega
  refine j_ist_6 C dL_law_339 rfl ?_
  refine j_aload_n C dL_law_341 rfl ?_
  refine j_perm (pm_38_19 _ _ _ _ _ _ _ _ _ _ _ _ _ _ _ _ _ _ _ _ _ _ _ _ _ _ _ _ _ _ _ _ _ _ _ _ _ _) ?_
  refine j_callVi C (As := []) (c_X6_thrown _ _ _ _ _ ) 0 nf_X6_thrown (jb := 0) rfl rfl wL_L_83 wI_X6_thrown wSe_X6_X6_thrown wIn_X6 wC_X6_thrown rfl rfl (by decide) dL_law_342 (Nat.le_of_ble_eq_true rfl) ⟨by dsimp only [rmN, room_1]; omega, by dsimp only [rmN, room_1]; omega⟩ (fun x342 u342 h342 => ?_)
  refine j_perm (pr_38_19 _ _ _ _ _ _ _ _ _ _ _ _ _ _ _ _ _ _ _ _ _ _ _ _ _ _ _ _ _ _ _ _ _ _ _ _ _ _) ?_
  refine j_iload C dL_law_345 rfl ?_
  refine j_icmpE (tgt := 352) C dL_law_347 (by decide) (by exact h342.trans hC1) ?_
  refine j_iload C dL_law_352 rfl ?_
  refine j_if_ne (tgt := 369) C dL_law_354 (by decide) (by omega) (by omega) (fun c354 => ?_) (fun c354 => ?_)
  · refine j_goto (tgt := 1341) C dL_law_369 (by decide) ?_
    exact j_lle (lv' := [_, _, _, _, _, none, none]) ⟨Or.inr rfl, ⟨Or.inr rfl, ⟨Or.inr rfl, ⟨Or.inr rfl, ⟨Or.inr rfl, ⟨Or.inl rfl, ⟨Or.inl rfl, trivial⟩⟩⟩⟩⟩⟩⟩ (j_widen (ce' := ce + 9) (sl' := sl + 333) (by first | omega | (dsimp only [rmN]; omega)) (by first | omega | (dsimp only [rmN]; omega)) (kk _ _ _ _ _ _ _ _ _ _ _ _ _ _ _ _ _ _ _ _ _ _ _ _ _ _ _ _ _ _ _ _ _ _ _ _ hC3 hC4))
  · refine j_aload_n C dL_law_357 rfl ?_
    refine j_iconst C dL_law_358 ?_
    refine j_lald C 0 0 rfl rfl dL_law_359 (by decide) (by omega) (by omega) ?_
    refine j_iload C dL_law_360 rfl ?_
    refine j_i2lN C dL_law_362 ?_
    refine j_lcmpE C dL_law_363 (by exact hC2 c354) ?_
    refine j_if_eq (tgt := 369) C dL_law_364 (by decide) (by omega) (by omega) (fun c364 => ?_) (fun c364 => ?_)
    · refine j_goto (tgt := 1341) C dL_law_369 (by decide) ?_
      exact j_lle (lv' := [_, _, _, _, _, none, none]) ⟨Or.inr rfl, ⟨Or.inr rfl, ⟨Or.inr rfl, ⟨Or.inr rfl, ⟨Or.inr rfl, ⟨Or.inl rfl, ⟨Or.inl rfl, trivial⟩⟩⟩⟩⟩⟩⟩ (j_widen (ce' := ce + 9) (sl' := sl + 333) (by first | omega | (dsimp only [rmN]; omega)) (by first | omega | (dsimp only [rmN]; omega)) (kk _ _ _ _ _ _ _ _ _ _ _ _ _ _ _ _ _ _ _ _ _ _ _ _ _ _ _ _ _ _ _ _ _ _ _ _ hC3 hC4))
    · exact absurd rfl c364
set_option maxHeartbeats 1600000 in
set_option maxRecDepth 100000 in
theorem c_law_dispute {K : KT} (C : Cx K cL_law 7 RL (some .boolean) room_1) (XK : WX K) (hfl : (kl K).stackTraces = false) {b0 Ls : Nat} {xs : Nat → Int32} (hX : va_X b0 Ls xs (ks K) (ks K).heap) (hbl : b0 < (ks K).heap.size) (hbA : ¬ kA K b0) (hL : Ls ≤ 2560) {q v w9 : Nat} {b tb r m o d a : Nat → Nat} (c : Int) (L : List ((Nat → Nat) × (Int → Int))) (z : Int) (X : Int → Int) (F : Int → Int) (Nx : Int → Int) (f0 : Int → Int) (th : Int → Int) (S : Int → Int) (T : Int → Int) (Xs : Int → Int) (Es : Int → Int) (Ds : Int → Int) (Bs : Int → Int) (O : Int → Int) (t : Int → Int) (Y : Int → Int) (G : Int → Int) (M : Int → Int) (TR : Int → Int) (V : Int → Int) (tt : Int → Int) (D1 : Int → Int) (B1 : Int → Int) (R : Int → Int) (N1 : Int → Int) (BR : Int → Int) (X1 : Int → Int) (L1 : Int → Int) (F1 : Int → Int) (Y1 : Int → Int) (w1 : Int → Int) (w2 : Int → Int) (w3 : Int → Int) (w4 : Int → Int) (w5 : Int → Int) {ce sl : Nat} (hce : ce ≤ 600000) (hsl : sl ≤ 7000000) {i : Int} (hi : 0 ≤ i ∧ i + 5 ≤ (Ls : Int)) (hrel : LRel S c L O t G M V) (htt : t = tt) (kk : KK K b0 q v w9 b tb r m o d a i ce sl) : J K ce sl [[(w9, lJ ((kC K) 3) 1 Y)], prO q v b tb r m o c, svB (kC K) v L, rgO r (d 0) z, dbO d, [(d 1, aJ ((kC K) 0) 49 X)], [(d 2, aJ ((kC K) 0) 49 F)], [(d 3, aJ ((kC K) 0) 40 Nx)], [(r 1, aJ ((kC K) 0) 2365 f0)], [(r 2, aJ ((kC K) 0) 49 th)], bk (kC K) b S, bk (kC K) tb T, rmO m, [(m 1, aJ ((kC K) 0) 40 Xs)], [(m 2, aJ ((kC K) 0) 7 Es)], [(m 3, aJ ((kC K) 0) 7 Ds)], [(m 4, aJ ((kC K) 0) 7 Bs)], orO o O, [(o 1, aJ ((kC K) 0) 100 t)], mO a G, [(a 1, aJ ((kC K) 0) 325 M)], [(a 2, aJ ((kC K) 0) 325 TR)], [(a 3, aJ ((kC K) 0) 1300 V)], [(a 4, aJ ((kC K) 0) 100 tt)], [(a 5, aJ ((kC K) 0) 49 D1)], [(a 6, aJ ((kC K) 0) 490 B1)], [(a 7, aJ ((kC K) 0) 8 R)], [(a 8, aJ ((kC K) 0) 9 N1)], [(a 9, aJ ((kC K) 0) 8 BR)], [(a 10, aJ ((kC K) 0) 40 X1)], [(a 11, aJ ((kC K) 0) 7 L1)], [(a 12, aJ ((kC K) 0) 7 F1)], [(a 13, aJ ((kC K) 0) 7 Y1)], [(a 14, aJ ((kC K) 0) 50 w1)], [(a 15, aJ ((kC K) 0) 50 w2)], [(a 16, aJ ((kC K) 0) 50 w3)], [(a 17, aJ ((kC K) 0) 50 w4)], [(a 18, aJ ((kC K) 0) 50 w5)]] [some (.ref b0), some (.ref q), some (.ref (a 0)), some (.ref w9), some (.int (iI i)), none, none] 372 [] := by
  subst htt
  have hI := hrel.1.1
  have hz := hrel.1.2.1
  have hAg := hrel.1.2.2
  have hc : 0 ≤ c ∧ c ≤ 4 ∧ c ≤ (L.length : Int) ∧ L.length ≤ 4 := hrel.2.1.1
  have hLz := hrel.2.1.2.1
  have hg0 := hrel.2.2.1.1
  have hg1 := hrel.2.2.1.2
  have ht := hrel.2.2.2
  have hO : 0 ≤ O 0 ∧ O 0 ≤ 100 := ht.1
  have hN := hI.2.1
  have hQ := hI.1
  have hcp := cp_Inv (T := T) hI
  have hb1 := gX_bd xs (i + 1)
  have hb2 := gX_bd xs (i + 2)
  have hb3 := gX_bd xs (i + 3)
  have hb4 := gX_bd xs (i + 4)
  refine j_aload_n C dL_law_372 rfl ?_
  refine j_aload_n C dL_law_373 rfl ?_
  refine j_iload C dL_law_374 rfl ?_
  refine j_iconst C dL_law_376 ?_
  refine j_iadd C dL_law_377 ?_
  refine j_sld C hX hbl hbA hL dL_law_378 (by omega) (by omega) ?_
  refine j_aload_n C dL_law_379 rfl ?_
  refine j_perm (pm_38_0_1_2_3_4_5_6_7_8_10 _ _ _ _ _ _ _ _ _ _ _ _ _ _ _ _ _ _ _ _ _ _ _ _ _ _ _ _ _ _ _ _ _ _ _ _ _ _) ?_
  refine j_callW C XK (As := [.ref _, .int (iI _), .ref _]) (c_L_dispute _ _ _ _ _ _ _ _ _ _ (d) _ _ _ _ _ _ _ _ _ _ _ (by first | assumption | omega) (by first | assumption | omega) (by first | assumption | omega) (by first | assumption | omega) (by first | assumption | omega)) 3 nf_L_dispute.2 wL_L_94 wS_L_dispute wIn_L wC_L_dispute rfl rfl (by decide) dL_law_380 (Nat.le_of_ble_eq_true rfl) ⟨by dsimp only [rmN, room_1]; omega, by dsimp only [rmN, room_1]; omega⟩ (fun x380 u380 h380 => ?_)
  refine j_perm (pr_38_0_1_2_3_4_5_6_7_8_10 _ _ _ _ _ _ _ _ _ _ _ _ _ _ _ _ _ _ _ _ _ _ _ _ _ _ _ _ _ _ _ _ _ _ _ _ _ _) ?_
  refine j_ist_5 C dL_law_383 rfl ?_
  refine j_aload_n C dL_law_385 rfl ?_
  refine j_aload_n C dL_law_386 rfl ?_
  refine j_iload C dL_law_387 rfl ?_
  refine j_iconst C dL_law_389 ?_
  refine j_iadd C dL_law_390 ?_
  refine j_sld C hX hbl hbA hL dL_law_391 (by omega) (by omega) ?_
  refine j_perm (pm_38_19_20_22_26_27_24_25 _ _ _ _ _ _ _ _ _ _ _ _ _ _ _ _ _ _ _ _ _ _ _ _ _ _ _ _ _ _ _ _ _ _ _ _ _ _) ?_
  refine j_callVi C (As := [.int (iI _)]) (c_X6_dispute _ _ _ _ _ _ _ _ _ _ _ (S) _ (by first | assumption | omega) (by first | assumption | omega) (by first | assumption | omega) (by first | assumption | omega)) 1 nf_X6_dispute (jb := 0) rfl rfl wL_L_96 wI_X6_dispute wSe_X6_X6_dispute wIn_X6 wC_X6_dispute rfl rfl (by decide) dL_law_392 (Nat.le_of_ble_eq_true rfl) ⟨by dsimp only [rmN, room_1]; omega, by dsimp only [rmN, room_1]; omega⟩ (fun x392 u392 h392 => ?_)
  refine j_perm (pr_38_19_20_22_26_27_24_25 _ _ _ _ _ _ _ _ _ _ _ _ _ _ _ _ _ _ _ _ _ _ _ _ _ _ _ _ _ _ _ _ _ _ _ _ _ _) ?_
  have hC : u392.1 2 = x380 ∧ (x380 = 0 → u380.2.2.2.2 0 = ndI x392) ∧ LRel (u380.2.2.1) (u380.1) (u380.2.1) O t u392.1 (u392.2.1) (u392.2.2.1) := by
    rcases h380 with ⟨A0, A1, A2, A3, A4⟩ | ⟨A0, A1, A2, A3, A4⟩ | ⟨A0, A1, A2, A3, A4⟩ <;> rcases h392 with ⟨P0, P1, P2, P3⟩ | ⟨⟨M1, V1⟩, ⟨P0, Br⟩ | ⟨P0, P4, Br⟩⟩ <;> first | (exact ⟨P3.2.2.2.trans A1.symm, fun _ => A2.trans (congrArg ndI P1.symm), by rw [A4]; exact rel_save hrel A3 (Inv_di hI A0.1.1 (Or.inr rfl)) (Inz_di hz (Or.inr rfl)) P2 P3⟩) | (exact ⟨Br.2.2.trans A1.symm, fun h => absurd (A1.symm.trans h) (by decide), by rw [A2, A3, A4, M1, V1]; exact rel_keep hrel Br⟩) | (exfalso; omega)
  obtain ⟨hC1, hC2, hC3⟩ := hC
  have hC4 : t = t := rfl
  have hx : 0 ≤ x380 ∧ x380 ≤ 3 := by rcases h380 with ⟨A0, A1, A2, A3, A4⟩ | ⟨A0, A1, A2, A3, A4⟩ | ⟨A0, A1, A2, A3, A4⟩ <;> omega
  refine j_ist_6 C dL_law_395 rfl ?_
  refine j_aload_n C dL_law_397 rfl ?_
  refine j_perm (pm_38_19 _ _ _ _ _ _ _ _ _ _ _ _ _ _ _ _ _ _ _ _ _ _ _ _ _ _ _ _ _ _ _ _ _ _ _ _ _ _) ?_
  refine j_callVi C (As := []) (c_X6_thrown _ _ _ _ _ ) 0 nf_X6_thrown (jb := 0) rfl rfl wL_L_83 wI_X6_thrown wSe_X6_X6_thrown wIn_X6 wC_X6_thrown rfl rfl (by decide) dL_law_398 (Nat.le_of_ble_eq_true rfl) ⟨by dsimp only [rmN, room_1]; omega, by dsimp only [rmN, room_1]; omega⟩ (fun x398 u398 h398 => ?_)
  refine j_perm (pr_38_19 _ _ _ _ _ _ _ _ _ _ _ _ _ _ _ _ _ _ _ _ _ _ _ _ _ _ _ _ _ _ _ _ _ _ _ _ _ _) ?_
  refine j_iload C dL_law_401 rfl ?_
  refine j_icmpE (tgt := 408) C dL_law_403 (by decide) (by exact h398.trans hC1) ?_
  refine j_iload C dL_law_408 rfl ?_
  refine j_if_ne (tgt := 425) C dL_law_410 (by decide) (by omega) (by omega) (fun c410 => ?_) (fun c410 => ?_)
  · refine j_goto (tgt := 1341) C dL_law_425 (by decide) ?_
    exact j_lle (lv' := [_, _, _, _, _, none, none]) ⟨Or.inr rfl, ⟨Or.inr rfl, ⟨Or.inr rfl, ⟨Or.inr rfl, ⟨Or.inr rfl, ⟨Or.inl rfl, ⟨Or.inl rfl, trivial⟩⟩⟩⟩⟩⟩⟩ (j_widen (ce' := ce + 9) (sl' := sl + 333) (by first | omega | (dsimp only [rmN]; omega)) (by first | omega | (dsimp only [rmN]; omega)) (kk _ _ _ _ _ _ _ _ _ _ _ _ _ _ _ _ _ _ _ _ _ _ _ _ _ _ _ _ _ _ _ _ _ _ _ _ hC3 hC4))
  · refine j_aload_n C dL_law_413 rfl ?_
    refine j_iconst C dL_law_414 ?_
    refine j_lald C 0 0 rfl rfl dL_law_415 (by decide) (by omega) (by omega) ?_
    refine j_iload C dL_law_416 rfl ?_
    refine j_i2lN C dL_law_418 ?_
    refine j_lcmpE C dL_law_419 (by exact hC2 c410) ?_
    refine j_if_eq (tgt := 425) C dL_law_420 (by decide) (by omega) (by omega) (fun c420 => ?_) (fun c420 => ?_)
    · refine j_goto (tgt := 1341) C dL_law_425 (by decide) ?_
      exact j_lle (lv' := [_, _, _, _, _, none, none]) ⟨Or.inr rfl, ⟨Or.inr rfl, ⟨Or.inr rfl, ⟨Or.inr rfl, ⟨Or.inr rfl, ⟨Or.inl rfl, ⟨Or.inl rfl, trivial⟩⟩⟩⟩⟩⟩⟩ (j_widen (ce' := ce + 9) (sl' := sl + 333) (by first | omega | (dsimp only [rmN]; omega)) (by first | omega | (dsimp only [rmN]; omega)) (kk _ _ _ _ _ _ _ _ _ _ _ _ _ _ _ _ _ _ _ _ _ _ _ _ _ _ _ _ _ _ _ _ _ _ _ _ hC3 hC4))
    · exact absurd rfl c420
set_option maxHeartbeats 1600000 in
set_option maxRecDepth 100000 in
theorem c_law_settle {K : KT} (C : Cx K cL_law 7 RL (some .boolean) room_1) (XK : WX K) (hfl : (kl K).stackTraces = false) {b0 Ls : Nat} {xs : Nat → Int32} (hX : va_X b0 Ls xs (ks K) (ks K).heap) (hbl : b0 < (ks K).heap.size) (hbA : ¬ kA K b0) (hL : Ls ≤ 2560) {q v w9 : Nat} {b tb r m o d a : Nat → Nat} (c : Int) (L : List ((Nat → Nat) × (Int → Int))) (z : Int) (X : Int → Int) (F : Int → Int) (Nx : Int → Int) (f0 : Int → Int) (th : Int → Int) (S : Int → Int) (T : Int → Int) (Xs : Int → Int) (Es : Int → Int) (Ds : Int → Int) (Bs : Int → Int) (O : Int → Int) (t : Int → Int) (Y : Int → Int) (G : Int → Int) (M : Int → Int) (TR : Int → Int) (V : Int → Int) (tt : Int → Int) (D1 : Int → Int) (B1 : Int → Int) (R : Int → Int) (N1 : Int → Int) (BR : Int → Int) (X1 : Int → Int) (L1 : Int → Int) (F1 : Int → Int) (Y1 : Int → Int) (w1 : Int → Int) (w2 : Int → Int) (w3 : Int → Int) (w4 : Int → Int) (w5 : Int → Int) {ce sl : Nat} (hce : ce ≤ 600000) (hsl : sl ≤ 7000000) {i : Int} (hi : 0 ≤ i ∧ i + 5 ≤ (Ls : Int)) (hrel : LRel S c L O t G M V) (htt : t = tt) (kk : KK K b0 q v w9 b tb r m o d a i ce sl) : J K ce sl [[(w9, lJ ((kC K) 3) 1 Y)], prO q v b tb r m o c, svB (kC K) v L, rgO r (d 0) z, dbO d, [(d 1, aJ ((kC K) 0) 49 X)], [(d 2, aJ ((kC K) 0) 49 F)], [(d 3, aJ ((kC K) 0) 40 Nx)], [(r 1, aJ ((kC K) 0) 2365 f0)], [(r 2, aJ ((kC K) 0) 49 th)], bk (kC K) b S, bk (kC K) tb T, rmO m, [(m 1, aJ ((kC K) 0) 40 Xs)], [(m 2, aJ ((kC K) 0) 7 Es)], [(m 3, aJ ((kC K) 0) 7 Ds)], [(m 4, aJ ((kC K) 0) 7 Bs)], orO o O, [(o 1, aJ ((kC K) 0) 100 t)], mO a G, [(a 1, aJ ((kC K) 0) 325 M)], [(a 2, aJ ((kC K) 0) 325 TR)], [(a 3, aJ ((kC K) 0) 1300 V)], [(a 4, aJ ((kC K) 0) 100 tt)], [(a 5, aJ ((kC K) 0) 49 D1)], [(a 6, aJ ((kC K) 0) 490 B1)], [(a 7, aJ ((kC K) 0) 8 R)], [(a 8, aJ ((kC K) 0) 9 N1)], [(a 9, aJ ((kC K) 0) 8 BR)], [(a 10, aJ ((kC K) 0) 40 X1)], [(a 11, aJ ((kC K) 0) 7 L1)], [(a 12, aJ ((kC K) 0) 7 F1)], [(a 13, aJ ((kC K) 0) 7 Y1)], [(a 14, aJ ((kC K) 0) 50 w1)], [(a 15, aJ ((kC K) 0) 50 w2)], [(a 16, aJ ((kC K) 0) 50 w3)], [(a 17, aJ ((kC K) 0) 50 w4)], [(a 18, aJ ((kC K) 0) 50 w5)]] [some (.ref b0), some (.ref q), some (.ref (a 0)), some (.ref w9), some (.int (iI i)), none, none] 428 [] := by
  subst htt
  have hI := hrel.1.1
  have hz := hrel.1.2.1
  have hAg := hrel.1.2.2
  have hc : 0 ≤ c ∧ c ≤ 4 ∧ c ≤ (L.length : Int) ∧ L.length ≤ 4 := hrel.2.1.1
  have hLz := hrel.2.1.2.1
  have hg0 := hrel.2.2.1.1
  have hg1 := hrel.2.2.1.2
  have ht := hrel.2.2.2
  have hO : 0 ≤ O 0 ∧ O 0 ≤ 100 := ht.1
  have hN := hI.2.1
  have hQ := hI.1
  have hcp := cp_Inv (T := T) hI
  have hb1 := gX_bd xs (i + 1)
  have hb2 := gX_bd xs (i + 2)
  have hb3 := gX_bd xs (i + 3)
  have hb4 := gX_bd xs (i + 4)
  refine j_aload_n C dL_law_428 rfl ?_
  refine j_aload_n C dL_law_429 rfl ?_
  refine j_iload C dL_law_430 rfl ?_
  refine j_iconst C dL_law_432 ?_
  refine j_iadd C dL_law_433 ?_
  refine j_sld C hX hbl hbA hL dL_law_434 (by omega) (by omega) ?_
  refine j_aload_n C dL_law_435 rfl ?_
  refine j_perm (pm_38_0_1_2_3_4_5_6_7_8_10 _ _ _ _ _ _ _ _ _ _ _ _ _ _ _ _ _ _ _ _ _ _ _ _ _ _ _ _ _ _ _ _ _ _ _ _ _ _) ?_
  refine j_callW C XK (As := [.ref _, .int (iI _), .ref _]) (c_L_settle _ _ _ _ _ _ _ _ _ _ (d) _ _ _ _ _ _ _ _ _ _ _ (by first | assumption | omega) (by first | assumption | omega) (by first | assumption | omega) (by first | assumption | omega) (by first | assumption | omega)) 3 nf_L_settle.2 wL_L_97 wS_L_settle wIn_L wC_L_settle rfl rfl (by decide) dL_law_436 (Nat.le_of_ble_eq_true rfl) ⟨by dsimp only [rmN, room_1]; omega, by dsimp only [rmN, room_1]; omega⟩ (fun x436 u436 h436 => ?_)
  refine j_perm (pr_38_0_1_2_3_4_5_6_7_8_10 _ _ _ _ _ _ _ _ _ _ _ _ _ _ _ _ _ _ _ _ _ _ _ _ _ _ _ _ _ _ _ _ _ _ _ _ _ _) ?_
  refine j_ist_5 C dL_law_439 rfl ?_
  refine j_aload_n C dL_law_441 rfl ?_
  refine j_aload_n C dL_law_442 rfl ?_
  refine j_iload C dL_law_443 rfl ?_
  refine j_iconst C dL_law_445 ?_
  refine j_iadd C dL_law_446 ?_
  refine j_sld C hX hbl hbA hL dL_law_447 (by omega) (by omega) ?_
  refine j_perm (pm_38_19_20_22_26_27_24_25 _ _ _ _ _ _ _ _ _ _ _ _ _ _ _ _ _ _ _ _ _ _ _ _ _ _ _ _ _ _ _ _ _ _ _ _ _ _) ?_
  refine j_callVi C (As := [.int (iI _)]) (c_X6_settle _ _ _ _ _ _ _ _ _ _ _ (S) _ (by first | assumption | omega) (by first | assumption | omega) (by first | assumption | omega) (by first | assumption | omega)) 1 nf_X6_settle (jb := 0) rfl rfl wL_L_99 wI_X6_settle wSe_X6_X6_settle wIn_X6 wC_X6_settle rfl rfl (by decide) dL_law_448 (Nat.le_of_ble_eq_true rfl) ⟨by dsimp only [rmN, room_1]; omega, by dsimp only [rmN, room_1]; omega⟩ (fun x448 u448 h448 => ?_)
  refine j_perm (pr_38_19_20_22_26_27_24_25 _ _ _ _ _ _ _ _ _ _ _ _ _ _ _ _ _ _ _ _ _ _ _ _ _ _ _ _ _ _ _ _ _ _ _ _ _ _) ?_
  have hC : u448.1 2 = x436 ∧ (x436 = 0 → u436.2.2.2.2 0 = ndI x448) ∧ LRel (u436.2.2.1) (u436.1) (u436.2.1) O t u448.1 (u448.2.1) (u448.2.2.1) := by
    rcases h436 with ⟨A0, A1, A2, A3, A4⟩ | ⟨A0, A1, A2, A3, A4⟩ | ⟨A0, A1, A2, A3, A4⟩ <;> rcases h448 with ⟨P0, P1, P2, P3⟩ | ⟨⟨M1, V1⟩, ⟨P0, Br⟩ | ⟨P0, P4, Br⟩⟩ <;> first | (exact ⟨P3.2.2.2.trans A1.symm, fun _ => A2.trans (congrArg ndI P1.symm), by rw [A4]; exact rel_save hrel A3 (Inv_di hI A0.1.1 (Or.inl rfl)) (Inz_di hz (Or.inl rfl)) P2 P3⟩) | (exact ⟨Br.2.2.trans A1.symm, fun h => absurd (A1.symm.trans h) (by decide), by rw [A2, A3, A4, M1, V1]; exact rel_keep hrel Br⟩) | (exfalso; omega)
  obtain ⟨hC1, hC2, hC3⟩ := hC
  have hC4 : t = t := rfl
  have hx : 0 ≤ x436 ∧ x436 ≤ 3 := by rcases h436 with ⟨A0, A1, A2, A3, A4⟩ | ⟨A0, A1, A2, A3, A4⟩ | ⟨A0, A1, A2, A3, A4⟩ <;> omega
  refine j_ist_6 C dL_law_451 rfl ?_
  refine j_aload_n C dL_law_453 rfl ?_
  refine j_perm (pm_38_19 _ _ _ _ _ _ _ _ _ _ _ _ _ _ _ _ _ _ _ _ _ _ _ _ _ _ _ _ _ _ _ _ _ _ _ _ _ _) ?_
  refine j_callVi C (As := []) (c_X6_thrown _ _ _ _ _ ) 0 nf_X6_thrown (jb := 0) rfl rfl wL_L_83 wI_X6_thrown wSe_X6_X6_thrown wIn_X6 wC_X6_thrown rfl rfl (by decide) dL_law_454 (Nat.le_of_ble_eq_true rfl) ⟨by dsimp only [rmN, room_1]; omega, by dsimp only [rmN, room_1]; omega⟩ (fun x454 u454 h454 => ?_)
  refine j_perm (pr_38_19 _ _ _ _ _ _ _ _ _ _ _ _ _ _ _ _ _ _ _ _ _ _ _ _ _ _ _ _ _ _ _ _ _ _ _ _ _ _) ?_
  refine j_iload C dL_law_457 rfl ?_
  refine j_icmpE (tgt := 464) C dL_law_459 (by decide) (by exact h454.trans hC1) ?_
  refine j_iload C dL_law_464 rfl ?_
  refine j_if_ne (tgt := 481) C dL_law_466 (by decide) (by omega) (by omega) (fun c466 => ?_) (fun c466 => ?_)
  · refine j_goto (tgt := 1341) C dL_law_481 (by decide) ?_
    exact j_lle (lv' := [_, _, _, _, _, none, none]) ⟨Or.inr rfl, ⟨Or.inr rfl, ⟨Or.inr rfl, ⟨Or.inr rfl, ⟨Or.inr rfl, ⟨Or.inl rfl, ⟨Or.inl rfl, trivial⟩⟩⟩⟩⟩⟩⟩ (j_widen (ce' := ce + 9) (sl' := sl + 333) (by first | omega | (dsimp only [rmN]; omega)) (by first | omega | (dsimp only [rmN]; omega)) (kk _ _ _ _ _ _ _ _ _ _ _ _ _ _ _ _ _ _ _ _ _ _ _ _ _ _ _ _ _ _ _ _ _ _ _ _ hC3 hC4))
  · refine j_aload_n C dL_law_469 rfl ?_
    refine j_iconst C dL_law_470 ?_
    refine j_lald C 0 0 rfl rfl dL_law_471 (by decide) (by omega) (by omega) ?_
    refine j_iload C dL_law_472 rfl ?_
    refine j_i2lN C dL_law_474 ?_
    refine j_lcmpE C dL_law_475 (by exact hC2 c466) ?_
    refine j_if_eq (tgt := 481) C dL_law_476 (by decide) (by omega) (by omega) (fun c476 => ?_) (fun c476 => ?_)
    · refine j_goto (tgt := 1341) C dL_law_481 (by decide) ?_
      exact j_lle (lv' := [_, _, _, _, _, none, none]) ⟨Or.inr rfl, ⟨Or.inr rfl, ⟨Or.inr rfl, ⟨Or.inr rfl, ⟨Or.inr rfl, ⟨Or.inl rfl, ⟨Or.inl rfl, trivial⟩⟩⟩⟩⟩⟩⟩ (j_widen (ce' := ce + 9) (sl' := sl + 333) (by first | omega | (dsimp only [rmN]; omega)) (by first | omega | (dsimp only [rmN]; omega)) (kk _ _ _ _ _ _ _ _ _ _ _ _ _ _ _ _ _ _ _ _ _ _ _ _ _ _ _ _ _ _ _ _ _ _ _ _ hC3 hC4))
    · exact absurd rfl c476
set_option maxHeartbeats 1600000 in
set_option maxRecDepth 100000 in
theorem c_law_discharge {K : KT} (C : Cx K cL_law 7 RL (some .boolean) room_1) (XK : WX K) (hfl : (kl K).stackTraces = false) {b0 Ls : Nat} {xs : Nat → Int32} (hX : va_X b0 Ls xs (ks K) (ks K).heap) (hbl : b0 < (ks K).heap.size) (hbA : ¬ kA K b0) (hL : Ls ≤ 2560) {q v w9 : Nat} {b tb r m o d a : Nat → Nat} (c : Int) (L : List ((Nat → Nat) × (Int → Int))) (z : Int) (X : Int → Int) (F : Int → Int) (Nx : Int → Int) (f0 : Int → Int) (th : Int → Int) (S : Int → Int) (T : Int → Int) (Xs : Int → Int) (Es : Int → Int) (Ds : Int → Int) (Bs : Int → Int) (O : Int → Int) (t : Int → Int) (Y : Int → Int) (G : Int → Int) (M : Int → Int) (TR : Int → Int) (V : Int → Int) (tt : Int → Int) (D1 : Int → Int) (B1 : Int → Int) (R : Int → Int) (N1 : Int → Int) (BR : Int → Int) (X1 : Int → Int) (L1 : Int → Int) (F1 : Int → Int) (Y1 : Int → Int) (w1 : Int → Int) (w2 : Int → Int) (w3 : Int → Int) (w4 : Int → Int) (w5 : Int → Int) {ce sl : Nat} (hce : ce ≤ 600000) (hsl : sl ≤ 7000000) {i : Int} (hi : 0 ≤ i ∧ i + 5 ≤ (Ls : Int)) (hrel : LRel S c L O t G M V) (htt : t = tt) (kk : KK K b0 q v w9 b tb r m o d a i ce sl) : J K ce sl [[(w9, lJ ((kC K) 3) 1 Y)], prO q v b tb r m o c, svB (kC K) v L, rgO r (d 0) z, dbO d, [(d 1, aJ ((kC K) 0) 49 X)], [(d 2, aJ ((kC K) 0) 49 F)], [(d 3, aJ ((kC K) 0) 40 Nx)], [(r 1, aJ ((kC K) 0) 2365 f0)], [(r 2, aJ ((kC K) 0) 49 th)], bk (kC K) b S, bk (kC K) tb T, rmO m, [(m 1, aJ ((kC K) 0) 40 Xs)], [(m 2, aJ ((kC K) 0) 7 Es)], [(m 3, aJ ((kC K) 0) 7 Ds)], [(m 4, aJ ((kC K) 0) 7 Bs)], orO o O, [(o 1, aJ ((kC K) 0) 100 t)], mO a G, [(a 1, aJ ((kC K) 0) 325 M)], [(a 2, aJ ((kC K) 0) 325 TR)], [(a 3, aJ ((kC K) 0) 1300 V)], [(a 4, aJ ((kC K) 0) 100 tt)], [(a 5, aJ ((kC K) 0) 49 D1)], [(a 6, aJ ((kC K) 0) 490 B1)], [(a 7, aJ ((kC K) 0) 8 R)], [(a 8, aJ ((kC K) 0) 9 N1)], [(a 9, aJ ((kC K) 0) 8 BR)], [(a 10, aJ ((kC K) 0) 40 X1)], [(a 11, aJ ((kC K) 0) 7 L1)], [(a 12, aJ ((kC K) 0) 7 F1)], [(a 13, aJ ((kC K) 0) 7 Y1)], [(a 14, aJ ((kC K) 0) 50 w1)], [(a 15, aJ ((kC K) 0) 50 w2)], [(a 16, aJ ((kC K) 0) 50 w3)], [(a 17, aJ ((kC K) 0) 50 w4)], [(a 18, aJ ((kC K) 0) 50 w5)]] [some (.ref b0), some (.ref q), some (.ref (a 0)), some (.ref w9), some (.int (iI i)), none, none] 484 [] := by
  subst htt
  have hI := hrel.1.1
  have hz := hrel.1.2.1
  have hAg := hrel.1.2.2
  have hc : 0 ≤ c ∧ c ≤ 4 ∧ c ≤ (L.length : Int) ∧ L.length ≤ 4 := hrel.2.1.1
  have hLz := hrel.2.1.2.1
  have hg0 := hrel.2.2.1.1
  have hg1 := hrel.2.2.1.2
  have ht := hrel.2.2.2
  have hO : 0 ≤ O 0 ∧ O 0 ≤ 100 := ht.1
  have hN := hI.2.1
  have hQ := hI.1
  have hcp := cp_Inv (T := T) hI
  have hb1 := gX_bd xs (i + 1)
  have hb2 := gX_bd xs (i + 2)
  have hb3 := gX_bd xs (i + 3)
  have hb4 := gX_bd xs (i + 4)
  refine j_aload_n C dL_law_484 rfl ?_
  refine j_aload_n C dL_law_485 rfl ?_
  refine j_iload C dL_law_486 rfl ?_
  refine j_iconst C dL_law_488 ?_
  refine j_iadd C dL_law_489 ?_
  refine j_sld C hX hbl hbA hL dL_law_490 (by omega) (by omega) ?_
  refine j_aload_n C dL_law_491 rfl ?_
  refine j_iload C dL_law_492 rfl ?_
  refine j_iconst C dL_law_494 ?_
  refine j_iadd C dL_law_495 ?_
  refine j_sld C hX hbl hbA hL dL_law_496 (by omega) (by omega) ?_
  refine j_aload_n C dL_law_497 rfl ?_
  refine j_perm (pm_38_0_1_2_3_4_5_6_7_8_10 _ _ _ _ _ _ _ _ _ _ _ _ _ _ _ _ _ _ _ _ _ _ _ _ _ _ _ _ _ _ _ _ _ _ _ _ _ _) ?_
  refine j_callW C XK (As := [.ref _, .int (iI _), .int (iI _), .ref _]) (c_L_discharge _ _ _ _ _ _ _ _ _ _ (d) _ _ _ _ _ _ _ _ _ _ _ _ (by first | assumption | omega) (by first | assumption | omega) (by first | assumption | omega) (by first | assumption | omega) (by first | assumption | omega) (by first | assumption | omega)) 4 nf_L_discharge.2 wL_L_100 wS_L_discharge wIn_L wC_L_discharge rfl rfl (by decide) dL_law_498 (Nat.le_of_ble_eq_true rfl) ⟨by dsimp only [rmN, room_1]; omega, by dsimp only [rmN, room_1]; omega⟩ (fun x498 u498 h498 => ?_)
  refine j_perm (pr_38_0_1_2_3_4_5_6_7_8_10 _ _ _ _ _ _ _ _ _ _ _ _ _ _ _ _ _ _ _ _ _ _ _ _ _ _ _ _ _ _ _ _ _ _ _ _ _ _) ?_
  refine j_ist_5 C dL_law_501 rfl ?_
  refine j_aload_n C dL_law_503 rfl ?_
  refine j_aload_n C dL_law_504 rfl ?_
  refine j_iload C dL_law_505 rfl ?_
  refine j_iconst C dL_law_507 ?_
  refine j_iadd C dL_law_508 ?_
  refine j_sld C hX hbl hbA hL dL_law_509 (by omega) (by omega) ?_
  refine j_aload_n C dL_law_510 rfl ?_
  refine j_iload C dL_law_511 rfl ?_
  refine j_iconst C dL_law_513 ?_
  refine j_iadd C dL_law_514 ?_
  refine j_sld C hX hbl hbA hL dL_law_515 (by omega) (by omega) ?_
  refine j_perm (pm_38_19_20_22_26_27_24_25 _ _ _ _ _ _ _ _ _ _ _ _ _ _ _ _ _ _ _ _ _ _ _ _ _ _ _ _ _ _ _ _ _ _ _ _ _ _) ?_
  refine j_callVi C (As := [.int (iI _), .int (iI _)]) (c_X6_discharge _ _ _ _ _ _ _ _ _ _ _ (S) _ _ (by first | assumption | omega) (by first | assumption | omega) (by first | assumption | omega) (by first | assumption | omega) (by first | assumption | omega)) 2 nf_X6_discharge (jb := 0) rfl rfl wL_L_102 wI_X6_discharge wSe_X6_X6_discharge wIn_X6 wC_X6_discharge rfl rfl (by decide) dL_law_516 (Nat.le_of_ble_eq_true rfl) ⟨by dsimp only [rmN, room_1]; omega, by dsimp only [rmN, room_1]; omega⟩ (fun x516 u516 h516 => ?_)
  refine j_perm (pr_38_19_20_22_26_27_24_25 _ _ _ _ _ _ _ _ _ _ _ _ _ _ _ _ _ _ _ _ _ _ _ _ _ _ _ _ _ _ _ _ _ _ _ _ _ _) ?_
  have hC : u516.1 2 = x498 ∧ (x498 = 0 → u498.2.2.2.2 0 = ndI x516) ∧ LRel (u498.2.2.1) (u498.1) (u498.2.1) O t u516.1 (u516.2.1) (u516.2.2.1) := by
    rcases h498 with ⟨A0, A1, A2, A3, A4⟩ | ⟨A0, A1, A2, A3, A4⟩ | ⟨A0, A1, A2, A3, A4⟩ | ⟨A0, A1, A2, A3, A4⟩ <;> rcases h516 with ⟨P0, P1, P2, P3⟩ | ⟨⟨M1, V1⟩, ⟨P0, Br⟩ | ⟨P0, P4, Br⟩ | ⟨P0, P4, P5, Br⟩⟩ <;> first | (exact ⟨P3.2.2.2.trans A1.symm, fun _ => A2.trans (congrArg ndI P1.symm), by rw [A4]; exact rel_save hrel A3 (disR_Inv hI (by omega)) (disR_Inz hI hz (by omega)) P2 P3⟩) | (exact ⟨Br.2.2.trans A1.symm, fun h => absurd (A1.symm.trans h) (by decide), by rw [A2, A3, A4, M1, V1]; exact rel_keep hrel Br⟩) | (exfalso; omega)
  obtain ⟨hC1, hC2, hC3⟩ := hC
  have hC4 : t = t := rfl
  have hx : 0 ≤ x498 ∧ x498 ≤ 3 := by rcases h498 with ⟨A0, A1, A2, A3, A4⟩ | ⟨A0, A1, A2, A3, A4⟩ | ⟨A0, A1, A2, A3, A4⟩ | ⟨A0, A1, A2, A3, A4⟩ <;> omega
  refine j_ist_6 C dL_law_519 rfl ?_
  refine j_aload_n C dL_law_521 rfl ?_
  refine j_perm (pm_38_19 _ _ _ _ _ _ _ _ _ _ _ _ _ _ _ _ _ _ _ _ _ _ _ _ _ _ _ _ _ _ _ _ _ _ _ _ _ _) ?_
  refine j_callVi C (As := []) (c_X6_thrown _ _ _ _ _ ) 0 nf_X6_thrown (jb := 0) rfl rfl wL_L_83 wI_X6_thrown wSe_X6_X6_thrown wIn_X6 wC_X6_thrown rfl rfl (by decide) dL_law_522 (Nat.le_of_ble_eq_true rfl) ⟨by dsimp only [rmN, room_1]; omega, by dsimp only [rmN, room_1]; omega⟩ (fun x522 u522 h522 => ?_)
  refine j_perm (pr_38_19 _ _ _ _ _ _ _ _ _ _ _ _ _ _ _ _ _ _ _ _ _ _ _ _ _ _ _ _ _ _ _ _ _ _ _ _ _ _) ?_
  refine j_iload C dL_law_525 rfl ?_
  refine j_icmpE (tgt := 532) C dL_law_527 (by decide) (by exact h522.trans hC1) ?_
  refine j_iload C dL_law_532 rfl ?_
  refine j_if_ne (tgt := 549) C dL_law_534 (by decide) (by omega) (by omega) (fun c534 => ?_) (fun c534 => ?_)
  · refine j_goto (tgt := 1341) C dL_law_549 (by decide) ?_
    exact j_lle (lv' := [_, _, _, _, _, none, none]) ⟨Or.inr rfl, ⟨Or.inr rfl, ⟨Or.inr rfl, ⟨Or.inr rfl, ⟨Or.inr rfl, ⟨Or.inl rfl, ⟨Or.inl rfl, trivial⟩⟩⟩⟩⟩⟩⟩ (j_widen (ce' := ce + 9) (sl' := sl + 333) (by first | omega | (dsimp only [rmN]; omega)) (by first | omega | (dsimp only [rmN]; omega)) (kk _ _ _ _ _ _ _ _ _ _ _ _ _ _ _ _ _ _ _ _ _ _ _ _ _ _ _ _ _ _ _ _ _ _ _ _ hC3 hC4))
  · refine j_aload_n C dL_law_537 rfl ?_
    refine j_iconst C dL_law_538 ?_
    refine j_lald C 0 0 rfl rfl dL_law_539 (by decide) (by omega) (by omega) ?_
    refine j_iload C dL_law_540 rfl ?_
    refine j_i2lN C dL_law_542 ?_
    refine j_lcmpE C dL_law_543 (by exact hC2 c534) ?_
    refine j_if_eq (tgt := 549) C dL_law_544 (by decide) (by omega) (by omega) (fun c544 => ?_) (fun c544 => ?_)
    · refine j_goto (tgt := 1341) C dL_law_549 (by decide) ?_
      exact j_lle (lv' := [_, _, _, _, _, none, none]) ⟨Or.inr rfl, ⟨Or.inr rfl, ⟨Or.inr rfl, ⟨Or.inr rfl, ⟨Or.inr rfl, ⟨Or.inl rfl, ⟨Or.inl rfl, trivial⟩⟩⟩⟩⟩⟩⟩ (j_widen (ce' := ce + 9) (sl' := sl + 333) (by first | omega | (dsimp only [rmN]; omega)) (by first | omega | (dsimp only [rmN]; omega)) (kk _ _ _ _ _ _ _ _ _ _ _ _ _ _ _ _ _ _ _ _ _ _ _ _ _ _ _ _ _ _ _ _ _ _ _ _ hC3 hC4))
    · exact absurd rfl c544
set_option maxHeartbeats 1600000 in
set_option maxRecDepth 100000 in
theorem c_law_dischargeBest {K : KT} (C : Cx K cL_law 7 RL (some .boolean) room_1) (XK : WX K) (hfl : (kl K).stackTraces = false) {b0 Ls : Nat} {xs : Nat → Int32} (hX : va_X b0 Ls xs (ks K) (ks K).heap) (hbl : b0 < (ks K).heap.size) (hbA : ¬ kA K b0) (hL : Ls ≤ 2560) {q v w9 : Nat} {b tb r m o d a : Nat → Nat} (c : Int) (L : List ((Nat → Nat) × (Int → Int))) (z : Int) (X : Int → Int) (F : Int → Int) (Nx : Int → Int) (f0 : Int → Int) (th : Int → Int) (S : Int → Int) (T : Int → Int) (Xs : Int → Int) (Es : Int → Int) (Ds : Int → Int) (Bs : Int → Int) (O : Int → Int) (t : Int → Int) (Y : Int → Int) (G : Int → Int) (M : Int → Int) (TR : Int → Int) (V : Int → Int) (tt : Int → Int) (D1 : Int → Int) (B1 : Int → Int) (R : Int → Int) (N1 : Int → Int) (BR : Int → Int) (X1 : Int → Int) (L1 : Int → Int) (F1 : Int → Int) (Y1 : Int → Int) (w1 : Int → Int) (w2 : Int → Int) (w3 : Int → Int) (w4 : Int → Int) (w5 : Int → Int) {ce sl : Nat} (hce : ce ≤ 600000) (hsl : sl ≤ 7000000) {i : Int} (hi : 0 ≤ i ∧ i + 5 ≤ (Ls : Int)) (hrel : LRel S c L O t G M V) (htt : t = tt) (kk : KK K b0 q v w9 b tb r m o d a i ce sl) : J K ce sl [[(w9, lJ ((kC K) 3) 1 Y)], prO q v b tb r m o c, svB (kC K) v L, rgO r (d 0) z, dbO d, [(d 1, aJ ((kC K) 0) 49 X)], [(d 2, aJ ((kC K) 0) 49 F)], [(d 3, aJ ((kC K) 0) 40 Nx)], [(r 1, aJ ((kC K) 0) 2365 f0)], [(r 2, aJ ((kC K) 0) 49 th)], bk (kC K) b S, bk (kC K) tb T, rmO m, [(m 1, aJ ((kC K) 0) 40 Xs)], [(m 2, aJ ((kC K) 0) 7 Es)], [(m 3, aJ ((kC K) 0) 7 Ds)], [(m 4, aJ ((kC K) 0) 7 Bs)], orO o O, [(o 1, aJ ((kC K) 0) 100 t)], mO a G, [(a 1, aJ ((kC K) 0) 325 M)], [(a 2, aJ ((kC K) 0) 325 TR)], [(a 3, aJ ((kC K) 0) 1300 V)], [(a 4, aJ ((kC K) 0) 100 tt)], [(a 5, aJ ((kC K) 0) 49 D1)], [(a 6, aJ ((kC K) 0) 490 B1)], [(a 7, aJ ((kC K) 0) 8 R)], [(a 8, aJ ((kC K) 0) 9 N1)], [(a 9, aJ ((kC K) 0) 8 BR)], [(a 10, aJ ((kC K) 0) 40 X1)], [(a 11, aJ ((kC K) 0) 7 L1)], [(a 12, aJ ((kC K) 0) 7 F1)], [(a 13, aJ ((kC K) 0) 7 Y1)], [(a 14, aJ ((kC K) 0) 50 w1)], [(a 15, aJ ((kC K) 0) 50 w2)], [(a 16, aJ ((kC K) 0) 50 w3)], [(a 17, aJ ((kC K) 0) 50 w4)], [(a 18, aJ ((kC K) 0) 50 w5)]] [some (.ref b0), some (.ref q), some (.ref (a 0)), some (.ref w9), some (.int (iI i)), none, none] 552 [] := by
  subst htt
  have hI := hrel.1.1
  have hz := hrel.1.2.1
  have hAg := hrel.1.2.2
  have hc : 0 ≤ c ∧ c ≤ 4 ∧ c ≤ (L.length : Int) ∧ L.length ≤ 4 := hrel.2.1.1
  have hLz := hrel.2.1.2.1
  have hg0 := hrel.2.2.1.1
  have hg1 := hrel.2.2.1.2
  have ht := hrel.2.2.2
  have hO : 0 ≤ O 0 ∧ O 0 ≤ 100 := ht.1
  have hN := hI.2.1
  have hQ := hI.1
  have hcp := cp_Inv (T := T) hI
  have hb1 := gX_bd xs (i + 1)
  have hb2 := gX_bd xs (i + 2)
  have hb3 := gX_bd xs (i + 3)
  have hb4 := gX_bd xs (i + 4)
  refine j_aload_n C dL_law_552 rfl ?_
  refine j_aload_n C dL_law_553 rfl ?_
  refine j_perm (pm_38_0_1_2_3_4_5_6_7_8_10 _ _ _ _ _ _ _ _ _ _ _ _ _ _ _ _ _ _ _ _ _ _ _ _ _ _ _ _ _ _ _ _ _ _ _ _ _ _) ?_
  refine j_callW C XK (As := [.ref _, .ref _]) (c_L_dischargeBest _ _ _ _ _ _ _ _ _ _ (d) _ _ _ _ _ _ _ _ _ _ (by first | assumption | omega) (by first | assumption | omega) (by first | assumption | omega) (by first | assumption | omega)) 2 nf_L_dischargeBest.2 wL_L_103 wS_L_dischargeBest wIn_L wC_L_dischargeBest rfl rfl (by decide) dL_law_554 (Nat.le_of_ble_eq_true rfl) ⟨by dsimp only [rmN, room_1]; omega, by dsimp only [rmN, room_1]; omega⟩ (fun x554 u554 h554 => ?_)
  refine j_perm (pr_38_0_1_2_3_4_5_6_7_8_10 _ _ _ _ _ _ _ _ _ _ _ _ _ _ _ _ _ _ _ _ _ _ _ _ _ _ _ _ _ _ _ _ _ _ _ _ _ _) ?_
  refine j_ist_5 C dL_law_557 rfl ?_
  refine j_aload_n C dL_law_559 rfl ?_
  refine j_perm (pm_38_19_20_22_26_27_24_25_28 _ _ _ _ _ _ _ _ _ _ _ _ _ _ _ _ _ _ _ _ _ _ _ _ _ _ _ _ _ _ _ _ _ _ _ _ _ _) ?_
  refine j_callVi C (As := []) (c_X6_dischargeBest _ _ _ _ _ _ _ _ _ _ _ _ (S) (by first | assumption | omega) (by first | assumption | omega) (by first | assumption | omega)) 0 nf_X6_dischargeBest (jb := 0) rfl rfl wL_L_106 wI_X6_dischargeBest wSe_X6_X6_dischargeBest wIn_X6 wC_X6_dischargeBest rfl rfl (by decide) dL_law_560 (Nat.le_of_ble_eq_true rfl) ⟨by dsimp only [rmN, room_1]; omega, by dsimp only [rmN, room_1]; omega⟩ (fun x560 u560 h560 => ?_)
  refine j_perm (pr_38_19_20_22_26_27_24_25_28 _ _ _ _ _ _ _ _ _ _ _ _ _ _ _ _ _ _ _ _ _ _ _ _ _ _ _ _ _ _ _ _ _ _ _ _ _ _) ?_
  have hC : u560.1 2 = x554 ∧ (x554 = 0 → u554.2.2.2.2 0 = ndI x560) ∧ LRel (u554.2.2.1) (u554.1) (u554.2.1) O t u560.1 (u560.2.1) (u560.2.2.1) := by
    rcases h554 with ⟨A0, A1, A2, A3, A4⟩ | ⟨A0, A1, A2, A3, A4⟩ <;> rcases h560 with ⟨P0, P1, P2, P3⟩ | ⟨⟨M1, V1⟩, P0, Br⟩ <;> first | (exact ⟨P3.2.2.2.trans A1.symm, fun _ => A2.trans (congrArg ndI P1.symm), by rw [A4]; exact rel_save hrel A3 (by split; exact hI; rename_i nb; exact disB_Inv hI nb) (by split; exact hz; rename_i nb; exact disB_Inz hI hz nb) P2 P3⟩) | (exact ⟨Br.2.2.trans A1.symm, fun h => absurd (A1.symm.trans h) (by decide), by rw [A2, A3, A4, M1, V1]; exact rel_keep hrel Br⟩) | (exfalso; omega)
  obtain ⟨hC1, hC2, hC3⟩ := hC
  have hC4 : t = t := rfl
  have hx : 0 ≤ x554 ∧ x554 ≤ 3 := by rcases h554 with ⟨A0, A1, A2, A3, A4⟩ | ⟨A0, A1, A2, A3, A4⟩ <;> omega
  refine j_ist_6 C dL_law_563 rfl ?_
  refine j_aload_n C dL_law_565 rfl ?_
  refine j_perm (pm_38_19 _ _ _ _ _ _ _ _ _ _ _ _ _ _ _ _ _ _ _ _ _ _ _ _ _ _ _ _ _ _ _ _ _ _ _ _ _ _) ?_
  refine j_callVi C (As := []) (c_X6_thrown _ _ _ _ _ ) 0 nf_X6_thrown (jb := 0) rfl rfl wL_L_83 wI_X6_thrown wSe_X6_X6_thrown wIn_X6 wC_X6_thrown rfl rfl (by decide) dL_law_566 (Nat.le_of_ble_eq_true rfl) ⟨by dsimp only [rmN, room_1]; omega, by dsimp only [rmN, room_1]; omega⟩ (fun x566 u566 h566 => ?_)
  refine j_perm (pr_38_19 _ _ _ _ _ _ _ _ _ _ _ _ _ _ _ _ _ _ _ _ _ _ _ _ _ _ _ _ _ _ _ _ _ _ _ _ _ _) ?_
  refine j_iload C dL_law_569 rfl ?_
  refine j_icmpE (tgt := 576) C dL_law_571 (by decide) (by exact h566.trans hC1) ?_
  refine j_iload C dL_law_576 rfl ?_
  refine j_if_ne (tgt := 593) C dL_law_578 (by decide) (by omega) (by omega) (fun c578 => ?_) (fun c578 => ?_)
  · refine j_goto (tgt := 1341) C dL_law_593 (by decide) ?_
    exact j_lle (lv' := [_, _, _, _, _, none, none]) ⟨Or.inr rfl, ⟨Or.inr rfl, ⟨Or.inr rfl, ⟨Or.inr rfl, ⟨Or.inr rfl, ⟨Or.inl rfl, ⟨Or.inl rfl, trivial⟩⟩⟩⟩⟩⟩⟩ (j_widen (ce' := ce + 9) (sl' := sl + 333) (by first | omega | (dsimp only [rmN]; omega)) (by first | omega | (dsimp only [rmN]; omega)) (kk _ _ _ _ _ _ _ _ _ _ _ _ _ _ _ _ _ _ _ _ _ _ _ _ _ _ _ _ _ _ _ _ _ _ _ _ hC3 hC4))
  · refine j_aload_n C dL_law_581 rfl ?_
    refine j_iconst C dL_law_582 ?_
    refine j_lald C 0 0 rfl rfl dL_law_583 (by decide) (by omega) (by omega) ?_
    refine j_iload C dL_law_584 rfl ?_
    refine j_i2lN C dL_law_586 ?_
    refine j_lcmpE C dL_law_587 (by exact hC2 c578) ?_
    refine j_if_eq (tgt := 593) C dL_law_588 (by decide) (by omega) (by omega) (fun c588 => ?_) (fun c588 => ?_)
    · refine j_goto (tgt := 1341) C dL_law_593 (by decide) ?_
      exact j_lle (lv' := [_, _, _, _, _, none, none]) ⟨Or.inr rfl, ⟨Or.inr rfl, ⟨Or.inr rfl, ⟨Or.inr rfl, ⟨Or.inr rfl, ⟨Or.inl rfl, ⟨Or.inl rfl, trivial⟩⟩⟩⟩⟩⟩⟩ (j_widen (ce' := ce + 9) (sl' := sl + 333) (by first | omega | (dsimp only [rmN]; omega)) (by first | omega | (dsimp only [rmN]; omega)) (kk _ _ _ _ _ _ _ _ _ _ _ _ _ _ _ _ _ _ _ _ _ _ _ _ _ _ _ _ _ _ _ _ _ _ _ _ hC3 hC4))
    · exact absurd rfl c588
set_option maxHeartbeats 1600000 in
set_option maxRecDepth 100000 in
theorem c_law_promiseOf {K : KT} (C : Cx K cL_law 7 RL (some .boolean) room_1) (XK : WX K) (hfl : (kl K).stackTraces = false) {b0 Ls : Nat} {xs : Nat → Int32} (hX : va_X b0 Ls xs (ks K) (ks K).heap) (hbl : b0 < (ks K).heap.size) (hbA : ¬ kA K b0) (hL : Ls ≤ 2560) {q v w9 : Nat} {b tb r m o d a : Nat → Nat} (c : Int) (L : List ((Nat → Nat) × (Int → Int))) (z : Int) (X : Int → Int) (F : Int → Int) (Nx : Int → Int) (f0 : Int → Int) (th : Int → Int) (S : Int → Int) (T : Int → Int) (Xs : Int → Int) (Es : Int → Int) (Ds : Int → Int) (Bs : Int → Int) (O : Int → Int) (t : Int → Int) (Y : Int → Int) (G : Int → Int) (M : Int → Int) (TR : Int → Int) (V : Int → Int) (tt : Int → Int) (D1 : Int → Int) (B1 : Int → Int) (R : Int → Int) (N1 : Int → Int) (BR : Int → Int) (X1 : Int → Int) (L1 : Int → Int) (F1 : Int → Int) (Y1 : Int → Int) (w1 : Int → Int) (w2 : Int → Int) (w3 : Int → Int) (w4 : Int → Int) (w5 : Int → Int) {ce sl : Nat} (hce : ce ≤ 600000) (hsl : sl ≤ 7000000) {i : Int} (hi : 0 ≤ i ∧ i + 5 ≤ (Ls : Int)) (hrel : LRel S c L O t G M V) (htt : t = tt) (kk : KK K b0 q v w9 b tb r m o d a i ce sl) : J K ce sl [[(w9, lJ ((kC K) 3) 1 Y)], prO q v b tb r m o c, svB (kC K) v L, rgO r (d 0) z, dbO d, [(d 1, aJ ((kC K) 0) 49 X)], [(d 2, aJ ((kC K) 0) 49 F)], [(d 3, aJ ((kC K) 0) 40 Nx)], [(r 1, aJ ((kC K) 0) 2365 f0)], [(r 2, aJ ((kC K) 0) 49 th)], bk (kC K) b S, bk (kC K) tb T, rmO m, [(m 1, aJ ((kC K) 0) 40 Xs)], [(m 2, aJ ((kC K) 0) 7 Es)], [(m 3, aJ ((kC K) 0) 7 Ds)], [(m 4, aJ ((kC K) 0) 7 Bs)], orO o O, [(o 1, aJ ((kC K) 0) 100 t)], mO a G, [(a 1, aJ ((kC K) 0) 325 M)], [(a 2, aJ ((kC K) 0) 325 TR)], [(a 3, aJ ((kC K) 0) 1300 V)], [(a 4, aJ ((kC K) 0) 100 tt)], [(a 5, aJ ((kC K) 0) 49 D1)], [(a 6, aJ ((kC K) 0) 490 B1)], [(a 7, aJ ((kC K) 0) 8 R)], [(a 8, aJ ((kC K) 0) 9 N1)], [(a 9, aJ ((kC K) 0) 8 BR)], [(a 10, aJ ((kC K) 0) 40 X1)], [(a 11, aJ ((kC K) 0) 7 L1)], [(a 12, aJ ((kC K) 0) 7 F1)], [(a 13, aJ ((kC K) 0) 7 Y1)], [(a 14, aJ ((kC K) 0) 50 w1)], [(a 15, aJ ((kC K) 0) 50 w2)], [(a 16, aJ ((kC K) 0) 50 w3)], [(a 17, aJ ((kC K) 0) 50 w4)], [(a 18, aJ ((kC K) 0) 50 w5)]] [some (.ref b0), some (.ref q), some (.ref (a 0)), some (.ref w9), some (.int (iI i)), none, none] 609 [] := by
  subst htt
  have hI := hrel.1.1
  have hz := hrel.1.2.1
  have hAg := hrel.1.2.2
  have hc : 0 ≤ c ∧ c ≤ 4 ∧ c ≤ (L.length : Int) ∧ L.length ≤ 4 := hrel.2.1.1
  have hLz := hrel.2.1.2.1
  have hg0 := hrel.2.2.1.1
  have hg1 := hrel.2.2.1.2
  have ht := hrel.2.2.2
  have hO : 0 ≤ O 0 ∧ O 0 ≤ 100 := ht.1
  have hN := hI.2.1
  have hQ := hI.1
  have hcp := cp_Inv (T := T) hI
  have hb1 := gX_bd xs (i + 1)
  have hb2 := gX_bd xs (i + 2)
  have hb3 := gX_bd xs (i + 3)
  have hb4 := gX_bd xs (i + 4)
  refine j_aload_n C dL_law_609 rfl ?_
  refine j_aload_n C dL_law_610 rfl ?_
  refine j_iload C dL_law_611 rfl ?_
  refine j_iconst C dL_law_613 ?_
  refine j_iadd C dL_law_614 ?_
  refine j_sld C hX hbl hbA hL dL_law_615 (by omega) (by omega) ?_
  refine j_aload_n C dL_law_616 rfl ?_
  refine j_iload C dL_law_617 rfl ?_
  refine j_iconst C dL_law_619 ?_
  refine j_iadd C dL_law_620 ?_
  refine j_sld C hX hbl hbA hL dL_law_621 (by omega) (by omega) ?_
  refine j_aload_n C dL_law_622 rfl ?_
  refine j_perm (pm_38_0_1_10 _ _ _ _ _ _ _ _ _ _ _ _ _ _ _ _ _ _ _ _ _ _ _ _ _ _ _ _ _ _ _ _ _ _ _ _ _ _) ?_
  refine j_callW C XK (As := [.ref _, .int (iI _), .int (iI _), .ref _]) (c_L_promiseOf _ _ _ _ _ _ _ _ _ _ (d) _ _ _ _ _ _ (by first | assumption | omega) (by first | assumption | omega) (by first | assumption | omega) (by first | assumption | omega)) 4 nf_L_promiseOf.2 wL_L_111 wS_L_promiseOf wIn_L wC_L_promiseOf rfl rfl (by decide) dL_law_623 (Nat.le_of_ble_eq_true rfl) ⟨by dsimp only [rmN, room_1]; omega, by dsimp only [rmN, room_1]; omega⟩ (fun x623 u623 h623 => ?_)
  refine j_perm (pr_38_0_1_10 _ _ _ _ _ _ _ _ _ _ _ _ _ _ _ _ _ _ _ _ _ _ _ _ _ _ _ _ _ _ _ _ _ _ _ _ _ _) ?_
  refine j_ist_5 C dL_law_626 rfl ?_
  refine j_aload_n C dL_law_628 rfl ?_
  refine j_aload_n C dL_law_629 rfl ?_
  refine j_iload C dL_law_630 rfl ?_
  refine j_iconst C dL_law_632 ?_
  refine j_iadd C dL_law_633 ?_
  refine j_sld C hX hbl hbA hL dL_law_634 (by omega) (by omega) ?_
  refine j_aload_n C dL_law_635 rfl ?_
  refine j_iload C dL_law_636 rfl ?_
  refine j_iconst C dL_law_638 ?_
  refine j_iadd C dL_law_639 ?_
  refine j_sld C hX hbl hbA hL dL_law_640 (by omega) (by omega) ?_
  refine j_perm (pm_38_19_20 _ _ _ _ _ _ _ _ _ _ _ _ _ _ _ _ _ _ _ _ _ _ _ _ _ _ _ _ _ _ _ _ _ _ _ _ _ _) ?_
  refine j_callVi C (As := [.int (iI _), .int (iI _)]) (c_X6_promiseOf _ _ _ _ _ _ (S) _ _ (by first | assumption | omega) (by first | assumption | omega) (by first | assumption | omega) (by first | assumption | omega)) 2 nf_X6_promiseOf (jb := 0) rfl rfl wL_L_113 wI_X6_promiseOf wSe_X6_X6_promiseOf wIn_X6 wC_X6_promiseOf rfl rfl (by decide) dL_law_641 (Nat.le_of_ble_eq_true rfl) ⟨by dsimp only [rmN, room_1]; omega, by dsimp only [rmN, room_1]; omega⟩ (fun x641 u641 h641 => ?_)
  refine j_perm (pr_38_19_20 _ _ _ _ _ _ _ _ _ _ _ _ _ _ _ _ _ _ _ _ _ _ _ _ _ _ _ _ _ _ _ _ _ _ _ _ _ _) ?_
  have hC : u641 2 = x623 ∧ (x623 = 0 → u623 0 = ndI x641) ∧ LRel S c L O t (u641) M V := by
    rcases h623 with ⟨A0, A1, A2⟩ | ⟨A0, A1⟩ | ⟨A0, A1⟩ <;> rcases h641 with ⟨P0, P1, P2⟩ | ⟨P0, Br⟩ | ⟨P0, P4, Br⟩ <;> first | (exact ⟨P2.2.2.trans A1.symm, fun _ => A2.trans (congrArg ndI P1.symm), rel_keep hrel P2⟩) | (exact ⟨Br.2.2.trans A1.symm, fun h => absurd (A1.symm.trans h) (by decide), rel_keep hrel Br⟩) | (exfalso; omega)
  obtain ⟨hC1, hC2, hC3⟩ := hC
  have hC4 : t = t := rfl
  have hx : 0 ≤ x623 ∧ x623 ≤ 3 := by rcases h623 with ⟨A0, A1, A2⟩ | ⟨A0, A1⟩ | ⟨A0, A1⟩ <;> omega
  refine j_ist_6 C dL_law_644 rfl ?_
  refine j_aload_n C dL_law_646 rfl ?_
  refine j_perm (pm_38_19 _ _ _ _ _ _ _ _ _ _ _ _ _ _ _ _ _ _ _ _ _ _ _ _ _ _ _ _ _ _ _ _ _ _ _ _ _ _) ?_
  refine j_callVi C (As := []) (c_X6_thrown _ _ _ _ _ ) 0 nf_X6_thrown (jb := 0) rfl rfl wL_L_83 wI_X6_thrown wSe_X6_X6_thrown wIn_X6 wC_X6_thrown rfl rfl (by decide) dL_law_647 (Nat.le_of_ble_eq_true rfl) ⟨by dsimp only [rmN, room_1]; omega, by dsimp only [rmN, room_1]; omega⟩ (fun x647 u647 h647 => ?_)
  refine j_perm (pr_38_19 _ _ _ _ _ _ _ _ _ _ _ _ _ _ _ _ _ _ _ _ _ _ _ _ _ _ _ _ _ _ _ _ _ _ _ _ _ _) ?_
  refine j_iload C dL_law_650 rfl ?_
  refine j_icmpE (tgt := 657) C dL_law_652 (by decide) (by exact h647.trans hC1) ?_
  refine j_iload C dL_law_657 rfl ?_
  refine j_if_ne (tgt := 674) C dL_law_659 (by decide) (by omega) (by omega) (fun c659 => ?_) (fun c659 => ?_)
  · refine j_goto (tgt := 1341) C dL_law_674 (by decide) ?_
    exact j_lle (lv' := [_, _, _, _, _, none, none]) ⟨Or.inr rfl, ⟨Or.inr rfl, ⟨Or.inr rfl, ⟨Or.inr rfl, ⟨Or.inr rfl, ⟨Or.inl rfl, ⟨Or.inl rfl, trivial⟩⟩⟩⟩⟩⟩⟩ (j_widen (ce' := ce + 9) (sl' := sl + 333) (by first | omega | (dsimp only [rmN]; omega)) (by first | omega | (dsimp only [rmN]; omega)) (kk _ _ _ _ _ _ _ _ _ _ _ _ _ _ _ _ _ _ _ _ _ _ _ _ _ _ _ _ _ _ _ _ _ _ _ _ hC3 hC4))
  · refine j_aload_n C dL_law_662 rfl ?_
    refine j_iconst C dL_law_663 ?_
    refine j_lald C 0 0 rfl rfl dL_law_664 (by decide) (by omega) (by omega) ?_
    refine j_iload C dL_law_665 rfl ?_
    refine j_i2lN C dL_law_667 ?_
    refine j_lcmpE C dL_law_668 (by exact hC2 c659) ?_
    refine j_if_eq (tgt := 674) C dL_law_669 (by decide) (by omega) (by omega) (fun c669 => ?_) (fun c669 => ?_)
    · refine j_goto (tgt := 1341) C dL_law_674 (by decide) ?_
      exact j_lle (lv' := [_, _, _, _, _, none, none]) ⟨Or.inr rfl, ⟨Or.inr rfl, ⟨Or.inr rfl, ⟨Or.inr rfl, ⟨Or.inr rfl, ⟨Or.inl rfl, ⟨Or.inl rfl, trivial⟩⟩⟩⟩⟩⟩⟩ (j_widen (ce' := ce + 9) (sl' := sl + 333) (by first | omega | (dsimp only [rmN]; omega)) (by first | omega | (dsimp only [rmN]; omega)) (kk _ _ _ _ _ _ _ _ _ _ _ _ _ _ _ _ _ _ _ _ _ _ _ _ _ _ _ _ _ _ _ _ _ _ _ _ hC3 hC4))
    · exact absurd rfl c669
set_option maxHeartbeats 1600000 in
set_option maxRecDepth 100000 in
theorem c_law_debt {K : KT} (C : Cx K cL_law 7 RL (some .boolean) room_1) (XK : WX K) (hfl : (kl K).stackTraces = false) {b0 Ls : Nat} {xs : Nat → Int32} (hX : va_X b0 Ls xs (ks K) (ks K).heap) (hbl : b0 < (ks K).heap.size) (hbA : ¬ kA K b0) (hL : Ls ≤ 2560) {q v w9 : Nat} {b tb r m o d a : Nat → Nat} (c : Int) (L : List ((Nat → Nat) × (Int → Int))) (z : Int) (X : Int → Int) (F : Int → Int) (Nx : Int → Int) (f0 : Int → Int) (th : Int → Int) (S : Int → Int) (T : Int → Int) (Xs : Int → Int) (Es : Int → Int) (Ds : Int → Int) (Bs : Int → Int) (O : Int → Int) (t : Int → Int) (Y : Int → Int) (G : Int → Int) (M : Int → Int) (TR : Int → Int) (V : Int → Int) (tt : Int → Int) (D1 : Int → Int) (B1 : Int → Int) (R : Int → Int) (N1 : Int → Int) (BR : Int → Int) (X1 : Int → Int) (L1 : Int → Int) (F1 : Int → Int) (Y1 : Int → Int) (w1 : Int → Int) (w2 : Int → Int) (w3 : Int → Int) (w4 : Int → Int) (w5 : Int → Int) {ce sl : Nat} (hce : ce ≤ 600000) (hsl : sl ≤ 7000000) {i : Int} (hi : 0 ≤ i ∧ i + 5 ≤ (Ls : Int)) (hrel : LRel S c L O t G M V) (htt : t = tt) (kk : KK K b0 q v w9 b tb r m o d a i ce sl) : J K ce sl [[(w9, lJ ((kC K) 3) 1 Y)], prO q v b tb r m o c, svB (kC K) v L, rgO r (d 0) z, dbO d, [(d 1, aJ ((kC K) 0) 49 X)], [(d 2, aJ ((kC K) 0) 49 F)], [(d 3, aJ ((kC K) 0) 40 Nx)], [(r 1, aJ ((kC K) 0) 2365 f0)], [(r 2, aJ ((kC K) 0) 49 th)], bk (kC K) b S, bk (kC K) tb T, rmO m, [(m 1, aJ ((kC K) 0) 40 Xs)], [(m 2, aJ ((kC K) 0) 7 Es)], [(m 3, aJ ((kC K) 0) 7 Ds)], [(m 4, aJ ((kC K) 0) 7 Bs)], orO o O, [(o 1, aJ ((kC K) 0) 100 t)], mO a G, [(a 1, aJ ((kC K) 0) 325 M)], [(a 2, aJ ((kC K) 0) 325 TR)], [(a 3, aJ ((kC K) 0) 1300 V)], [(a 4, aJ ((kC K) 0) 100 tt)], [(a 5, aJ ((kC K) 0) 49 D1)], [(a 6, aJ ((kC K) 0) 490 B1)], [(a 7, aJ ((kC K) 0) 8 R)], [(a 8, aJ ((kC K) 0) 9 N1)], [(a 9, aJ ((kC K) 0) 8 BR)], [(a 10, aJ ((kC K) 0) 40 X1)], [(a 11, aJ ((kC K) 0) 7 L1)], [(a 12, aJ ((kC K) 0) 7 F1)], [(a 13, aJ ((kC K) 0) 7 Y1)], [(a 14, aJ ((kC K) 0) 50 w1)], [(a 15, aJ ((kC K) 0) 50 w2)], [(a 16, aJ ((kC K) 0) 50 w3)], [(a 17, aJ ((kC K) 0) 50 w4)], [(a 18, aJ ((kC K) 0) 50 w5)]] [some (.ref b0), some (.ref q), some (.ref (a 0)), some (.ref w9), some (.int (iI i)), none, none] 677 [] := by
  subst htt
  have hI := hrel.1.1
  have hz := hrel.1.2.1
  have hAg := hrel.1.2.2
  have hc : 0 ≤ c ∧ c ≤ 4 ∧ c ≤ (L.length : Int) ∧ L.length ≤ 4 := hrel.2.1.1
  have hLz := hrel.2.1.2.1
  have hg0 := hrel.2.2.1.1
  have hg1 := hrel.2.2.1.2
  have ht := hrel.2.2.2
  have hO : 0 ≤ O 0 ∧ O 0 ≤ 100 := ht.1
  have hN := hI.2.1
  have hQ := hI.1
  have hcp := cp_Inv (T := T) hI
  have hb1 := gX_bd xs (i + 1)
  have hb2 := gX_bd xs (i + 2)
  have hb3 := gX_bd xs (i + 3)
  have hb4 := gX_bd xs (i + 4)
  refine j_aload_n C dL_law_677 rfl ?_
  refine j_aload_n C dL_law_678 rfl ?_
  refine j_iload C dL_law_679 rfl ?_
  refine j_iconst C dL_law_681 ?_
  refine j_iadd C dL_law_682 ?_
  refine j_sld C hX hbl hbA hL dL_law_683 (by omega) (by omega) ?_
  refine j_aload_n C dL_law_684 rfl ?_
  refine j_iload C dL_law_685 rfl ?_
  refine j_iconst C dL_law_687 ?_
  refine j_iadd C dL_law_688 ?_
  refine j_sld C hX hbl hbA hL dL_law_689 (by omega) (by omega) ?_
  refine j_aload_n C dL_law_690 rfl ?_
  refine j_perm (pm_38_0_1_10 _ _ _ _ _ _ _ _ _ _ _ _ _ _ _ _ _ _ _ _ _ _ _ _ _ _ _ _ _ _ _ _ _ _ _ _ _ _) ?_
  refine j_callW C XK (As := [.ref _, .int (iI _), .int (iI _), .ref _]) (c_L_debt _ _ _ _ _ _ _ _ _ _ (d) _ _ _ _ _ _ (by first | assumption | omega) (by first | assumption | omega) (by first | assumption | omega) (by first | assumption | omega)) 4 nf_L_debt.2 wL_L_114 wS_L_debt wIn_L wC_L_debt rfl rfl (by decide) dL_law_691 (Nat.le_of_ble_eq_true rfl) ⟨by dsimp only [rmN, room_1]; omega, by dsimp only [rmN, room_1]; omega⟩ (fun x691 u691 h691 => ?_)
  refine j_perm (pr_38_0_1_10 _ _ _ _ _ _ _ _ _ _ _ _ _ _ _ _ _ _ _ _ _ _ _ _ _ _ _ _ _ _ _ _ _ _ _ _ _ _) ?_
  refine j_ist_5 C dL_law_694 rfl ?_
  refine j_aload_n C dL_law_696 rfl ?_
  refine j_aload_n C dL_law_697 rfl ?_
  refine j_iload C dL_law_698 rfl ?_
  refine j_iconst C dL_law_700 ?_
  refine j_iadd C dL_law_701 ?_
  refine j_sld C hX hbl hbA hL dL_law_702 (by omega) (by omega) ?_
  refine j_aload_n C dL_law_703 rfl ?_
  refine j_iload C dL_law_704 rfl ?_
  refine j_iconst C dL_law_706 ?_
  refine j_iadd C dL_law_707 ?_
  refine j_sld C hX hbl hbA hL dL_law_708 (by omega) (by omega) ?_
  refine j_perm (pm_38_19_20_27_24_25 _ _ _ _ _ _ _ _ _ _ _ _ _ _ _ _ _ _ _ _ _ _ _ _ _ _ _ _ _ _ _ _ _ _ _ _ _ _) ?_
  refine j_callVi C (As := [.int (iI _), .int (iI _)]) (c_X6_debt _ _ _ _ _ _ _ _ _ (S) _ _ (by first | assumption | omega) (by first | assumption | omega) (by first | assumption | omega) (by first | assumption | omega)) 2 nf_X6_debt (jb := 0) rfl rfl wL_L_116 wI_X6_debt wSe_X6_X6_debt wIn_X6 wC_X6_debt rfl rfl (by decide) dL_law_709 (Nat.le_of_ble_eq_true rfl) ⟨by dsimp only [rmN, room_1]; omega, by dsimp only [rmN, room_1]; omega⟩ (fun x709 u709 h709 => ?_)
  refine j_perm (pr_38_19_20_27_24_25 _ _ _ _ _ _ _ _ _ _ _ _ _ _ _ _ _ _ _ _ _ _ _ _ _ _ _ _ _ _ _ _ _ _ _ _ _ _) ?_
  have hC : u709.1 2 = x691 ∧ (x691 = 0 → u691 0 = ndI x709) ∧ LRel S c L O t (u709.1) M V := by
    rcases h691 with ⟨A0, A1, A2⟩ | ⟨A0, A1⟩ <;> rcases h709 with ⟨P0, P1, P2⟩ | ⟨P0, Br⟩ <;> first | (exact ⟨P2.2.2.trans A1.symm, fun _ => A2.trans (congrArg ndI P1.symm), rel_keep hrel P2⟩) | (exact ⟨Br.2.2.trans A1.symm, fun h => absurd (A1.symm.trans h) (by decide), rel_keep hrel Br⟩) | (exfalso; omega)
  obtain ⟨hC1, hC2, hC3⟩ := hC
  have hC4 : t = t := rfl
  have hx : 0 ≤ x691 ∧ x691 ≤ 3 := by rcases h691 with ⟨A0, A1, A2⟩ | ⟨A0, A1⟩ <;> omega
  refine j_ist_6 C dL_law_712 rfl ?_
  refine j_aload_n C dL_law_714 rfl ?_
  refine j_perm (pm_38_19 _ _ _ _ _ _ _ _ _ _ _ _ _ _ _ _ _ _ _ _ _ _ _ _ _ _ _ _ _ _ _ _ _ _ _ _ _ _) ?_
  refine j_callVi C (As := []) (c_X6_thrown _ _ _ _ _ ) 0 nf_X6_thrown (jb := 0) rfl rfl wL_L_83 wI_X6_thrown wSe_X6_X6_thrown wIn_X6 wC_X6_thrown rfl rfl (by decide) dL_law_715 (Nat.le_of_ble_eq_true rfl) ⟨by dsimp only [rmN, room_1]; omega, by dsimp only [rmN, room_1]; omega⟩ (fun x715 u715 h715 => ?_)
  refine j_perm (pr_38_19 _ _ _ _ _ _ _ _ _ _ _ _ _ _ _ _ _ _ _ _ _ _ _ _ _ _ _ _ _ _ _ _ _ _ _ _ _ _) ?_
  refine j_iload C dL_law_718 rfl ?_
  refine j_icmpE (tgt := 725) C dL_law_720 (by decide) (by exact h715.trans hC1) ?_
  refine j_iload C dL_law_725 rfl ?_
  refine j_if_ne (tgt := 742) C dL_law_727 (by decide) (by omega) (by omega) (fun c727 => ?_) (fun c727 => ?_)
  · refine j_goto (tgt := 1341) C dL_law_742 (by decide) ?_
    exact j_lle (lv' := [_, _, _, _, _, none, none]) ⟨Or.inr rfl, ⟨Or.inr rfl, ⟨Or.inr rfl, ⟨Or.inr rfl, ⟨Or.inr rfl, ⟨Or.inl rfl, ⟨Or.inl rfl, trivial⟩⟩⟩⟩⟩⟩⟩ (j_widen (ce' := ce + 9) (sl' := sl + 333) (by first | omega | (dsimp only [rmN]; omega)) (by first | omega | (dsimp only [rmN]; omega)) (kk _ _ _ _ _ _ _ _ _ _ _ _ _ _ _ _ _ _ _ _ _ _ _ _ _ _ _ _ _ _ _ _ _ _ _ _ hC3 hC4))
  · refine j_aload_n C dL_law_730 rfl ?_
    refine j_iconst C dL_law_731 ?_
    refine j_lald C 0 0 rfl rfl dL_law_732 (by decide) (by omega) (by omega) ?_
    refine j_iload C dL_law_733 rfl ?_
    refine j_i2lN C dL_law_735 ?_
    refine j_lcmpE C dL_law_736 (by exact hC2 c727) ?_
    refine j_if_eq (tgt := 742) C dL_law_737 (by decide) (by omega) (by omega) (fun c737 => ?_) (fun c737 => ?_)
    · refine j_goto (tgt := 1341) C dL_law_742 (by decide) ?_
      exact j_lle (lv' := [_, _, _, _, _, none, none]) ⟨Or.inr rfl, ⟨Or.inr rfl, ⟨Or.inr rfl, ⟨Or.inr rfl, ⟨Or.inr rfl, ⟨Or.inl rfl, ⟨Or.inl rfl, trivial⟩⟩⟩⟩⟩⟩⟩ (j_widen (ce' := ce + 9) (sl' := sl + 333) (by first | omega | (dsimp only [rmN]; omega)) (by first | omega | (dsimp only [rmN]; omega)) (kk _ _ _ _ _ _ _ _ _ _ _ _ _ _ _ _ _ _ _ _ _ _ _ _ _ _ _ _ _ _ _ _ _ _ _ _ hC3 hC4))
    · exact absurd rfl c737
set_option maxHeartbeats 1600000 in
set_option maxRecDepth 100000 in
theorem c_law_net {K : KT} (C : Cx K cL_law 7 RL (some .boolean) room_1) (XK : WX K) (hfl : (kl K).stackTraces = false) {b0 Ls : Nat} {xs : Nat → Int32} (hX : va_X b0 Ls xs (ks K) (ks K).heap) (hbl : b0 < (ks K).heap.size) (hbA : ¬ kA K b0) (hL : Ls ≤ 2560) {q v w9 : Nat} {b tb r m o d a : Nat → Nat} (c : Int) (L : List ((Nat → Nat) × (Int → Int))) (z : Int) (X : Int → Int) (F : Int → Int) (Nx : Int → Int) (f0 : Int → Int) (th : Int → Int) (S : Int → Int) (T : Int → Int) (Xs : Int → Int) (Es : Int → Int) (Ds : Int → Int) (Bs : Int → Int) (O : Int → Int) (t : Int → Int) (Y : Int → Int) (G : Int → Int) (M : Int → Int) (TR : Int → Int) (V : Int → Int) (tt : Int → Int) (D1 : Int → Int) (B1 : Int → Int) (R : Int → Int) (N1 : Int → Int) (BR : Int → Int) (X1 : Int → Int) (L1 : Int → Int) (F1 : Int → Int) (Y1 : Int → Int) (w1 : Int → Int) (w2 : Int → Int) (w3 : Int → Int) (w4 : Int → Int) (w5 : Int → Int) {ce sl : Nat} (hce : ce ≤ 600000) (hsl : sl ≤ 7000000) {i : Int} (hi : 0 ≤ i ∧ i + 5 ≤ (Ls : Int)) (hrel : LRel S c L O t G M V) (htt : t = tt) (kk : KK K b0 q v w9 b tb r m o d a i ce sl) : J K ce sl [[(w9, lJ ((kC K) 3) 1 Y)], prO q v b tb r m o c, svB (kC K) v L, rgO r (d 0) z, dbO d, [(d 1, aJ ((kC K) 0) 49 X)], [(d 2, aJ ((kC K) 0) 49 F)], [(d 3, aJ ((kC K) 0) 40 Nx)], [(r 1, aJ ((kC K) 0) 2365 f0)], [(r 2, aJ ((kC K) 0) 49 th)], bk (kC K) b S, bk (kC K) tb T, rmO m, [(m 1, aJ ((kC K) 0) 40 Xs)], [(m 2, aJ ((kC K) 0) 7 Es)], [(m 3, aJ ((kC K) 0) 7 Ds)], [(m 4, aJ ((kC K) 0) 7 Bs)], orO o O, [(o 1, aJ ((kC K) 0) 100 t)], mO a G, [(a 1, aJ ((kC K) 0) 325 M)], [(a 2, aJ ((kC K) 0) 325 TR)], [(a 3, aJ ((kC K) 0) 1300 V)], [(a 4, aJ ((kC K) 0) 100 tt)], [(a 5, aJ ((kC K) 0) 49 D1)], [(a 6, aJ ((kC K) 0) 490 B1)], [(a 7, aJ ((kC K) 0) 8 R)], [(a 8, aJ ((kC K) 0) 9 N1)], [(a 9, aJ ((kC K) 0) 8 BR)], [(a 10, aJ ((kC K) 0) 40 X1)], [(a 11, aJ ((kC K) 0) 7 L1)], [(a 12, aJ ((kC K) 0) 7 F1)], [(a 13, aJ ((kC K) 0) 7 Y1)], [(a 14, aJ ((kC K) 0) 50 w1)], [(a 15, aJ ((kC K) 0) 50 w2)], [(a 16, aJ ((kC K) 0) 50 w3)], [(a 17, aJ ((kC K) 0) 50 w4)], [(a 18, aJ ((kC K) 0) 50 w5)]] [some (.ref b0), some (.ref q), some (.ref (a 0)), some (.ref w9), some (.int (iI i)), none, none] 745 [] := by
  subst htt
  have hI := hrel.1.1
  have hz := hrel.1.2.1
  have hAg := hrel.1.2.2
  have hc : 0 ≤ c ∧ c ≤ 4 ∧ c ≤ (L.length : Int) ∧ L.length ≤ 4 := hrel.2.1.1
  have hLz := hrel.2.1.2.1
  have hg0 := hrel.2.2.1.1
  have hg1 := hrel.2.2.1.2
  have ht := hrel.2.2.2
  have hO : 0 ≤ O 0 ∧ O 0 ≤ 100 := ht.1
  have hN := hI.2.1
  have hQ := hI.1
  have hcp := cp_Inv (T := T) hI
  have hb1 := gX_bd xs (i + 1)
  have hb2 := gX_bd xs (i + 2)
  have hb3 := gX_bd xs (i + 3)
  have hb4 := gX_bd xs (i + 4)
  refine j_aload_n C dL_law_745 rfl ?_
  refine j_aload_n C dL_law_746 rfl ?_
  refine j_iload C dL_law_747 rfl ?_
  refine j_iconst C dL_law_749 ?_
  refine j_iadd C dL_law_750 ?_
  refine j_sld C hX hbl hbA hL dL_law_751 (by omega) (by omega) ?_
  refine j_aload_n C dL_law_752 rfl ?_
  refine j_perm (pm_38_0_1_10 _ _ _ _ _ _ _ _ _ _ _ _ _ _ _ _ _ _ _ _ _ _ _ _ _ _ _ _ _ _ _ _ _ _ _ _ _ _) ?_
  refine j_callW C XK (As := [.ref _, .int (iI _), .ref _]) (c_L_net _ _ _ _ _ _ _ _ _ _ (d) _ _ _ _ _ (by first | assumption | omega) (by first | assumption | omega) (by first | assumption | omega)) 3 nf_L_net.2 wL_L_117 wS_L_net wIn_L wC_L_net rfl rfl (by decide) dL_law_753 (Nat.le_of_ble_eq_true rfl) ⟨by dsimp only [rmN, room_1]; omega, by dsimp only [rmN, room_1]; omega⟩ (fun x753 u753 h753 => ?_)
  refine j_perm (pr_38_0_1_10 _ _ _ _ _ _ _ _ _ _ _ _ _ _ _ _ _ _ _ _ _ _ _ _ _ _ _ _ _ _ _ _ _ _ _ _ _ _) ?_
  refine j_ist_5 C dL_law_756 rfl ?_
  refine j_aload_n C dL_law_758 rfl ?_
  refine j_aload_n C dL_law_759 rfl ?_
  refine j_iload C dL_law_760 rfl ?_
  refine j_iconst C dL_law_762 ?_
  refine j_iadd C dL_law_763 ?_
  refine j_sld C hX hbl hbA hL dL_law_764 (by omega) (by omega) ?_
  refine j_perm (pm_38_19_20 _ _ _ _ _ _ _ _ _ _ _ _ _ _ _ _ _ _ _ _ _ _ _ _ _ _ _ _ _ _ _ _ _ _ _ _ _ _) ?_
  refine j_callVi C (As := [.int (iI _)]) (c_X6_net _ _ _ _ _ _ (S) _ (by first | assumption | omega) (by first | assumption | omega) (by first | assumption | omega)) 1 nf_X6_net (jb := 0) rfl rfl wL_L_119 wI_X6_net wSe_X6_X6_net wIn_X6 wC_X6_net rfl rfl (by decide) dL_law_765 (Nat.le_of_ble_eq_true rfl) ⟨by dsimp only [rmN, room_1]; omega, by dsimp only [rmN, room_1]; omega⟩ (fun x765 u765 h765 => ?_)
  refine j_perm (pr_38_19_20 _ _ _ _ _ _ _ _ _ _ _ _ _ _ _ _ _ _ _ _ _ _ _ _ _ _ _ _ _ _ _ _ _ _ _ _ _ _) ?_
  have hC : u765 2 = x753 ∧ (x753 = 0 → u753 0 = ndI x765) ∧ LRel S c L O t (u765) M V := by
    rcases h753 with ⟨A0, A1, A2⟩ | ⟨A0, A1⟩ <;> rcases h765 with ⟨P0, P1, P2⟩ | ⟨P0, Br⟩ <;> first | (exact ⟨P2.2.2.trans A1.symm, fun _ => A2.trans (congrArg ndI P1.symm), rel_keep hrel P2⟩) | (exact ⟨Br.2.2.trans A1.symm, fun h => absurd (A1.symm.trans h) (by decide), rel_keep hrel Br⟩) | (exfalso; omega)
  obtain ⟨hC1, hC2, hC3⟩ := hC
  have hC4 : t = t := rfl
  have hx : 0 ≤ x753 ∧ x753 ≤ 3 := by rcases h753 with ⟨A0, A1, A2⟩ | ⟨A0, A1⟩ <;> omega
  refine j_ist_6 C dL_law_768 rfl ?_
  refine j_aload_n C dL_law_770 rfl ?_
  refine j_perm (pm_38_19 _ _ _ _ _ _ _ _ _ _ _ _ _ _ _ _ _ _ _ _ _ _ _ _ _ _ _ _ _ _ _ _ _ _ _ _ _ _) ?_
  refine j_callVi C (As := []) (c_X6_thrown _ _ _ _ _ ) 0 nf_X6_thrown (jb := 0) rfl rfl wL_L_83 wI_X6_thrown wSe_X6_X6_thrown wIn_X6 wC_X6_thrown rfl rfl (by decide) dL_law_771 (Nat.le_of_ble_eq_true rfl) ⟨by dsimp only [rmN, room_1]; omega, by dsimp only [rmN, room_1]; omega⟩ (fun x771 u771 h771 => ?_)
  refine j_perm (pr_38_19 _ _ _ _ _ _ _ _ _ _ _ _ _ _ _ _ _ _ _ _ _ _ _ _ _ _ _ _ _ _ _ _ _ _ _ _ _ _) ?_
  refine j_iload C dL_law_774 rfl ?_
  refine j_icmpE (tgt := 781) C dL_law_776 (by decide) (by exact h771.trans hC1) ?_
  refine j_iload C dL_law_781 rfl ?_
  refine j_if_ne (tgt := 798) C dL_law_783 (by decide) (by omega) (by omega) (fun c783 => ?_) (fun c783 => ?_)
  · refine j_goto (tgt := 1341) C dL_law_798 (by decide) ?_
    exact j_lle (lv' := [_, _, _, _, _, none, none]) ⟨Or.inr rfl, ⟨Or.inr rfl, ⟨Or.inr rfl, ⟨Or.inr rfl, ⟨Or.inr rfl, ⟨Or.inl rfl, ⟨Or.inl rfl, trivial⟩⟩⟩⟩⟩⟩⟩ (j_widen (ce' := ce + 9) (sl' := sl + 333) (by first | omega | (dsimp only [rmN]; omega)) (by first | omega | (dsimp only [rmN]; omega)) (kk _ _ _ _ _ _ _ _ _ _ _ _ _ _ _ _ _ _ _ _ _ _ _ _ _ _ _ _ _ _ _ _ _ _ _ _ hC3 hC4))
  · refine j_aload_n C dL_law_786 rfl ?_
    refine j_iconst C dL_law_787 ?_
    refine j_lald C 0 0 rfl rfl dL_law_788 (by decide) (by omega) (by omega) ?_
    refine j_iload C dL_law_789 rfl ?_
    refine j_i2lN C dL_law_791 ?_
    refine j_lcmpE C dL_law_792 (by exact hC2 c783) ?_
    refine j_if_eq (tgt := 798) C dL_law_793 (by decide) (by omega) (by omega) (fun c793 => ?_) (fun c793 => ?_)
    · refine j_goto (tgt := 1341) C dL_law_798 (by decide) ?_
      exact j_lle (lv' := [_, _, _, _, _, none, none]) ⟨Or.inr rfl, ⟨Or.inr rfl, ⟨Or.inr rfl, ⟨Or.inr rfl, ⟨Or.inr rfl, ⟨Or.inl rfl, ⟨Or.inl rfl, trivial⟩⟩⟩⟩⟩⟩⟩ (j_widen (ce' := ce + 9) (sl' := sl + 333) (by first | omega | (dsimp only [rmN]; omega)) (by first | omega | (dsimp only [rmN]; omega)) (kk _ _ _ _ _ _ _ _ _ _ _ _ _ _ _ _ _ _ _ _ _ _ _ _ _ _ _ _ _ _ _ _ _ _ _ _ hC3 hC4))
    · exact absurd rfl c793
set_option maxHeartbeats 1600000 in
set_option maxRecDepth 100000 in
theorem c_law_ring {K : KT} (C : Cx K cL_law 7 RL (some .boolean) room_1) (XK : WX K) (hfl : (kl K).stackTraces = false) {b0 Ls : Nat} {xs : Nat → Int32} (hX : va_X b0 Ls xs (ks K) (ks K).heap) (hbl : b0 < (ks K).heap.size) (hbA : ¬ kA K b0) (hL : Ls ≤ 2560) {q v w9 : Nat} {b tb r m o d a : Nat → Nat} (c : Int) (L : List ((Nat → Nat) × (Int → Int))) (z : Int) (X : Int → Int) (F : Int → Int) (Nx : Int → Int) (f0 : Int → Int) (th : Int → Int) (S : Int → Int) (T : Int → Int) (Xs : Int → Int) (Es : Int → Int) (Ds : Int → Int) (Bs : Int → Int) (O : Int → Int) (t : Int → Int) (Y : Int → Int) (G : Int → Int) (M : Int → Int) (TR : Int → Int) (V : Int → Int) (tt : Int → Int) (D1 : Int → Int) (B1 : Int → Int) (R : Int → Int) (N1 : Int → Int) (BR : Int → Int) (X1 : Int → Int) (L1 : Int → Int) (F1 : Int → Int) (Y1 : Int → Int) (w1 : Int → Int) (w2 : Int → Int) (w3 : Int → Int) (w4 : Int → Int) (w5 : Int → Int) {ce sl : Nat} (hce : ce ≤ 600000) (hsl : sl ≤ 7000000) {i : Int} (hi : 0 ≤ i ∧ i + 5 ≤ (Ls : Int)) (hrel : LRel S c L O t G M V) (htt : t = tt) (kk : KK K b0 q v w9 b tb r m o d a i ce sl) : J K ce sl [[(w9, lJ ((kC K) 3) 1 Y)], prO q v b tb r m o c, svB (kC K) v L, rgO r (d 0) z, dbO d, [(d 1, aJ ((kC K) 0) 49 X)], [(d 2, aJ ((kC K) 0) 49 F)], [(d 3, aJ ((kC K) 0) 40 Nx)], [(r 1, aJ ((kC K) 0) 2365 f0)], [(r 2, aJ ((kC K) 0) 49 th)], bk (kC K) b S, bk (kC K) tb T, rmO m, [(m 1, aJ ((kC K) 0) 40 Xs)], [(m 2, aJ ((kC K) 0) 7 Es)], [(m 3, aJ ((kC K) 0) 7 Ds)], [(m 4, aJ ((kC K) 0) 7 Bs)], orO o O, [(o 1, aJ ((kC K) 0) 100 t)], mO a G, [(a 1, aJ ((kC K) 0) 325 M)], [(a 2, aJ ((kC K) 0) 325 TR)], [(a 3, aJ ((kC K) 0) 1300 V)], [(a 4, aJ ((kC K) 0) 100 tt)], [(a 5, aJ ((kC K) 0) 49 D1)], [(a 6, aJ ((kC K) 0) 490 B1)], [(a 7, aJ ((kC K) 0) 8 R)], [(a 8, aJ ((kC K) 0) 9 N1)], [(a 9, aJ ((kC K) 0) 8 BR)], [(a 10, aJ ((kC K) 0) 40 X1)], [(a 11, aJ ((kC K) 0) 7 L1)], [(a 12, aJ ((kC K) 0) 7 F1)], [(a 13, aJ ((kC K) 0) 7 Y1)], [(a 14, aJ ((kC K) 0) 50 w1)], [(a 15, aJ ((kC K) 0) 50 w2)], [(a 16, aJ ((kC K) 0) 50 w3)], [(a 17, aJ ((kC K) 0) 50 w4)], [(a 18, aJ ((kC K) 0) 50 w5)]] [some (.ref b0), some (.ref q), some (.ref (a 0)), some (.ref w9), some (.int (iI i)), none, none] 801 [] := by
  subst htt
  have hI := hrel.1.1
  have hz := hrel.1.2.1
  have hAg := hrel.1.2.2
  have hc : 0 ≤ c ∧ c ≤ 4 ∧ c ≤ (L.length : Int) ∧ L.length ≤ 4 := hrel.2.1.1
  have hLz := hrel.2.1.2.1
  have hg0 := hrel.2.2.1.1
  have hg1 := hrel.2.2.1.2
  have ht := hrel.2.2.2
  have hO : 0 ≤ O 0 ∧ O 0 ≤ 100 := ht.1
  have hN := hI.2.1
  have hQ := hI.1
  have hcp := cp_Inv (T := T) hI
  have hb1 := gX_bd xs (i + 1)
  have hb2 := gX_bd xs (i + 2)
  have hb3 := gX_bd xs (i + 3)
  have hb4 := gX_bd xs (i + 4)
  refine j_aload_n C dL_law_801 rfl ?_
  refine j_aload_n C dL_law_802 rfl ?_
  refine j_iload C dL_law_803 rfl ?_
  refine j_iconst C dL_law_805 ?_
  refine j_iadd C dL_law_806 ?_
  refine j_sld C hX hbl hbA hL dL_law_807 (by omega) (by omega) ?_
  refine j_aload_n C dL_law_808 rfl ?_
  refine j_iload C dL_law_809 rfl ?_
  refine j_iconst C dL_law_811 ?_
  refine j_iadd C dL_law_812 ?_
  refine j_sld C hX hbl hbA hL dL_law_813 (by omega) (by omega) ?_
  refine j_aload_n C dL_law_814 rfl ?_
  refine j_perm (pm_38_0_1_3_4_5_6_7_8_10 _ _ _ _ _ _ _ _ _ _ _ _ _ _ _ _ _ _ _ _ _ _ _ _ _ _ _ _ _ _ _ _ _ _ _ _ _ _) ?_
  refine j_callW C XK (As := [.ref _, .int (iI _), .int (iI _), .ref _]) (c_L_ring _ _ _ _ _ _ _ _ _ _ (d) _ _ _ _ _ _ _ _ _ _ _ (by first | assumption | omega) (by first | assumption | omega) (by first | assumption | omega) (by first | assumption | omega)) 4 nf_L_ring.2 wL_L_120 wS_L_ring wIn_L wC_L_ring rfl rfl (by decide) dL_law_815 (Nat.le_of_ble_eq_true rfl) ⟨by dsimp only [rmN, room_1]; omega, by dsimp only [rmN, room_1]; omega⟩ (fun x815 u815 h815 => ?_)
  refine j_perm (pr_38_0_1_3_4_5_6_7_8_10 _ _ _ _ _ _ _ _ _ _ _ _ _ _ _ _ _ _ _ _ _ _ _ _ _ _ _ _ _ _ _ _ _ _ _ _ _ _) ?_
  refine j_ist_5 C dL_law_818 rfl ?_
  refine j_aload_n C dL_law_820 rfl ?_
  refine j_aload_n C dL_law_821 rfl ?_
  refine j_iload C dL_law_822 rfl ?_
  refine j_iconst C dL_law_824 ?_
  refine j_iadd C dL_law_825 ?_
  refine j_sld C hX hbl hbA hL dL_law_826 (by omega) (by omega) ?_
  refine j_aload_n C dL_law_827 rfl ?_
  refine j_iload C dL_law_828 rfl ?_
  refine j_iconst C dL_law_830 ?_
  refine j_iadd C dL_law_831 ?_
  refine j_sld C hX hbl hbA hL dL_law_832 (by omega) (by omega) ?_
  refine j_perm (pm_38_19_20_26_27_24_25 _ _ _ _ _ _ _ _ _ _ _ _ _ _ _ _ _ _ _ _ _ _ _ _ _ _ _ _ _ _ _ _ _ _ _ _ _ _) ?_
  refine j_callVi C (As := [.int (iI _), .int (iI _)]) (c_X6_ring _ _ _ _ _ _ _ _ _ _ (S) _ _ (by first | assumption | omega) (by first | assumption | omega) (by first | assumption | omega) (by first | assumption | omega)) 2 nf_X6_ring (jb := 0) rfl rfl wL_L_122 wI_X6_ring wSe_X6_X6_ring wIn_X6 wC_X6_ring rfl rfl (by decide) dL_law_833 (Nat.le_of_ble_eq_true rfl) ⟨by dsimp only [rmN, room_1]; omega, by dsimp only [rmN, room_1]; omega⟩ (fun x833 u833 h833 => ?_)
  refine j_perm (pr_38_19_20_26_27_24_25 _ _ _ _ _ _ _ _ _ _ _ _ _ _ _ _ _ _ _ _ _ _ _ _ _ _ _ _ _ _ _ _ _ _ _ _ _ _) ?_
  have hC : u833.1 2 = x815 ∧ (x815 = 0 → u815.2 0 = ndI x833) ∧ LRel S c L O t (u833.1) M V := by
    rcases h815 with ⟨A0, A1, A2⟩ | ⟨A0, A1⟩ | ⟨A0, A1⟩ <;> rcases h833 with ⟨P0, P1, P2⟩ | ⟨P0, Br⟩ | ⟨P0, P4, Br⟩ <;> first | (exact ⟨P2.2.2.trans A1.symm, fun _ => A2.trans (congrArg ndI P1.symm), rel_keep hrel P2⟩) | (exact ⟨Br.2.2.trans A1.symm, fun h => absurd (A1.symm.trans h) (by decide), rel_keep hrel Br⟩) | (exfalso; omega)
  obtain ⟨hC1, hC2, hC3⟩ := hC
  have hC4 : t = t := rfl
  have hx : 0 ≤ x815 ∧ x815 ≤ 3 := by rcases h815 with ⟨A0, A1, A2⟩ | ⟨A0, A1⟩ | ⟨A0, A1⟩ <;> omega
  refine j_ist_6 C dL_law_836 rfl ?_
  refine j_aload_n C dL_law_838 rfl ?_
  refine j_perm (pm_38_19 _ _ _ _ _ _ _ _ _ _ _ _ _ _ _ _ _ _ _ _ _ _ _ _ _ _ _ _ _ _ _ _ _ _ _ _ _ _) ?_
  refine j_callVi C (As := []) (c_X6_thrown _ _ _ _ _ ) 0 nf_X6_thrown (jb := 0) rfl rfl wL_L_83 wI_X6_thrown wSe_X6_X6_thrown wIn_X6 wC_X6_thrown rfl rfl (by decide) dL_law_839 (Nat.le_of_ble_eq_true rfl) ⟨by dsimp only [rmN, room_1]; omega, by dsimp only [rmN, room_1]; omega⟩ (fun x839 u839 h839 => ?_)
  refine j_perm (pr_38_19 _ _ _ _ _ _ _ _ _ _ _ _ _ _ _ _ _ _ _ _ _ _ _ _ _ _ _ _ _ _ _ _ _ _ _ _ _ _) ?_
  refine j_iload C dL_law_842 rfl ?_
  refine j_icmpE (tgt := 849) C dL_law_844 (by decide) (by exact h839.trans hC1) ?_
  refine j_iload C dL_law_849 rfl ?_
  refine j_if_ne (tgt := 866) C dL_law_851 (by decide) (by omega) (by omega) (fun c851 => ?_) (fun c851 => ?_)
  · refine j_goto (tgt := 1341) C dL_law_866 (by decide) ?_
    exact j_lle (lv' := [_, _, _, _, _, none, none]) ⟨Or.inr rfl, ⟨Or.inr rfl, ⟨Or.inr rfl, ⟨Or.inr rfl, ⟨Or.inr rfl, ⟨Or.inl rfl, ⟨Or.inl rfl, trivial⟩⟩⟩⟩⟩⟩⟩ (j_widen (ce' := ce + 9) (sl' := sl + 333) (by first | omega | (dsimp only [rmN]; omega)) (by first | omega | (dsimp only [rmN]; omega)) (kk _ _ _ _ _ _ _ _ _ _ _ _ _ _ _ _ _ _ _ _ _ _ _ _ _ _ _ _ _ _ _ _ _ _ _ _ hC3 hC4))
  · refine j_aload_n C dL_law_854 rfl ?_
    refine j_iconst C dL_law_855 ?_
    refine j_lald C 0 0 rfl rfl dL_law_856 (by decide) (by omega) (by omega) ?_
    refine j_iload C dL_law_857 rfl ?_
    refine j_i2lN C dL_law_859 ?_
    refine j_lcmpE C dL_law_860 (by exact hC2 c851) ?_
    refine j_if_eq (tgt := 866) C dL_law_861 (by decide) (by omega) (by omega) (fun c861 => ?_) (fun c861 => ?_)
    · refine j_goto (tgt := 1341) C dL_law_866 (by decide) ?_
      exact j_lle (lv' := [_, _, _, _, _, none, none]) ⟨Or.inr rfl, ⟨Or.inr rfl, ⟨Or.inr rfl, ⟨Or.inr rfl, ⟨Or.inr rfl, ⟨Or.inl rfl, ⟨Or.inl rfl, trivial⟩⟩⟩⟩⟩⟩⟩ (j_widen (ce' := ce + 9) (sl' := sl + 333) (by first | omega | (dsimp only [rmN]; omega)) (by first | omega | (dsimp only [rmN]; omega)) (kk _ _ _ _ _ _ _ _ _ _ _ _ _ _ _ _ _ _ _ _ _ _ _ _ _ _ _ _ _ _ _ _ _ _ _ _ hC3 hC4))
    · exact absurd rfl c861
set_option maxHeartbeats 1600000 in
set_option maxRecDepth 100000 in
theorem c_law_room {K : KT} (C : Cx K cL_law 7 RL (some .boolean) room_1) (XK : WX K) (hfl : (kl K).stackTraces = false) {b0 Ls : Nat} {xs : Nat → Int32} (hX : va_X b0 Ls xs (ks K) (ks K).heap) (hbl : b0 < (ks K).heap.size) (hbA : ¬ kA K b0) (hL : Ls ≤ 2560) {q v w9 : Nat} {b tb r m o d a : Nat → Nat} (c : Int) (L : List ((Nat → Nat) × (Int → Int))) (z : Int) (X : Int → Int) (F : Int → Int) (Nx : Int → Int) (f0 : Int → Int) (th : Int → Int) (S : Int → Int) (T : Int → Int) (Xs : Int → Int) (Es : Int → Int) (Ds : Int → Int) (Bs : Int → Int) (O : Int → Int) (t : Int → Int) (Y : Int → Int) (G : Int → Int) (M : Int → Int) (TR : Int → Int) (V : Int → Int) (tt : Int → Int) (D1 : Int → Int) (B1 : Int → Int) (R : Int → Int) (N1 : Int → Int) (BR : Int → Int) (X1 : Int → Int) (L1 : Int → Int) (F1 : Int → Int) (Y1 : Int → Int) (w1 : Int → Int) (w2 : Int → Int) (w3 : Int → Int) (w4 : Int → Int) (w5 : Int → Int) {ce sl : Nat} (hce : ce ≤ 600000) (hsl : sl ≤ 7000000) {i : Int} (hi : 0 ≤ i ∧ i + 5 ≤ (Ls : Int)) (hrel : LRel S c L O t G M V) (htt : t = tt) (kk : KK K b0 q v w9 b tb r m o d a i ce sl) : J K ce sl [[(w9, lJ ((kC K) 3) 1 Y)], prO q v b tb r m o c, svB (kC K) v L, rgO r (d 0) z, dbO d, [(d 1, aJ ((kC K) 0) 49 X)], [(d 2, aJ ((kC K) 0) 49 F)], [(d 3, aJ ((kC K) 0) 40 Nx)], [(r 1, aJ ((kC K) 0) 2365 f0)], [(r 2, aJ ((kC K) 0) 49 th)], bk (kC K) b S, bk (kC K) tb T, rmO m, [(m 1, aJ ((kC K) 0) 40 Xs)], [(m 2, aJ ((kC K) 0) 7 Es)], [(m 3, aJ ((kC K) 0) 7 Ds)], [(m 4, aJ ((kC K) 0) 7 Bs)], orO o O, [(o 1, aJ ((kC K) 0) 100 t)], mO a G, [(a 1, aJ ((kC K) 0) 325 M)], [(a 2, aJ ((kC K) 0) 325 TR)], [(a 3, aJ ((kC K) 0) 1300 V)], [(a 4, aJ ((kC K) 0) 100 tt)], [(a 5, aJ ((kC K) 0) 49 D1)], [(a 6, aJ ((kC K) 0) 490 B1)], [(a 7, aJ ((kC K) 0) 8 R)], [(a 8, aJ ((kC K) 0) 9 N1)], [(a 9, aJ ((kC K) 0) 8 BR)], [(a 10, aJ ((kC K) 0) 40 X1)], [(a 11, aJ ((kC K) 0) 7 L1)], [(a 12, aJ ((kC K) 0) 7 F1)], [(a 13, aJ ((kC K) 0) 7 Y1)], [(a 14, aJ ((kC K) 0) 50 w1)], [(a 15, aJ ((kC K) 0) 50 w2)], [(a 16, aJ ((kC K) 0) 50 w3)], [(a 17, aJ ((kC K) 0) 50 w4)], [(a 18, aJ ((kC K) 0) 50 w5)]] [some (.ref b0), some (.ref q), some (.ref (a 0)), some (.ref w9), some (.int (iI i)), none, none] 869 [] := by
  subst htt
  have hI := hrel.1.1
  have hz := hrel.1.2.1
  have hAg := hrel.1.2.2
  have hc : 0 ≤ c ∧ c ≤ 4 ∧ c ≤ (L.length : Int) ∧ L.length ≤ 4 := hrel.2.1.1
  have hLz := hrel.2.1.2.1
  have hg0 := hrel.2.2.1.1
  have hg1 := hrel.2.2.1.2
  have ht := hrel.2.2.2
  have hO : 0 ≤ O 0 ∧ O 0 ≤ 100 := ht.1
  have hN := hI.2.1
  have hQ := hI.1
  have hcp := cp_Inv (T := T) hI
  have hb1 := gX_bd xs (i + 1)
  have hb2 := gX_bd xs (i + 2)
  have hb3 := gX_bd xs (i + 3)
  have hb4 := gX_bd xs (i + 4)
  refine j_aload_n C dL_law_869 rfl ?_
  refine j_aload_n C dL_law_870 rfl ?_
  refine j_iload C dL_law_871 rfl ?_
  refine j_iconst C dL_law_873 ?_
  refine j_iadd C dL_law_874 ?_
  refine j_sld C hX hbl hbA hL dL_law_875 (by omega) (by omega) ?_
  refine j_aload_n C dL_law_876 rfl ?_
  refine j_perm (pm_38_0_1_3_4_5_6_7_8_10 _ _ _ _ _ _ _ _ _ _ _ _ _ _ _ _ _ _ _ _ _ _ _ _ _ _ _ _ _ _ _ _ _ _ _ _ _ _) ?_
  refine j_callW C XK (As := [.ref _, .int (iI _), .ref _]) (c_L_room _ _ _ _ _ _ _ _ _ _ (d) _ _ _ _ _ _ _ _ _ _ (by first | assumption | omega) (by first | assumption | omega) (by first | assumption | omega)) 3 nf_L_room.2 wL_L_123 wS_L_room wIn_L wC_L_room rfl rfl (by decide) dL_law_877 (Nat.le_of_ble_eq_true rfl) ⟨by dsimp only [rmN, room_1]; omega, by dsimp only [rmN, room_1]; omega⟩ (fun x877 u877 h877 => ?_)
  refine j_perm (pr_38_0_1_3_4_5_6_7_8_10 _ _ _ _ _ _ _ _ _ _ _ _ _ _ _ _ _ _ _ _ _ _ _ _ _ _ _ _ _ _ _ _ _ _ _ _ _ _) ?_
  refine j_ist_5 C dL_law_880 rfl ?_
  refine j_aload_n C dL_law_882 rfl ?_
  refine j_aload_n C dL_law_883 rfl ?_
  refine j_iload C dL_law_884 rfl ?_
  refine j_iconst C dL_law_886 ?_
  refine j_iadd C dL_law_887 ?_
  refine j_sld C hX hbl hbA hL dL_law_888 (by omega) (by omega) ?_
  refine j_perm (pm_38_19_20_26_27_24_25 _ _ _ _ _ _ _ _ _ _ _ _ _ _ _ _ _ _ _ _ _ _ _ _ _ _ _ _ _ _ _ _ _ _ _ _ _ _) ?_
  refine j_callVi C (As := [.int (iI _)]) (c_X6_room _ _ _ _ _ _ _ _ _ _ (S) _ (by first | assumption | omega) (by first | assumption | omega) (by first | assumption | omega)) 1 nf_X6_room (jb := 0) rfl rfl wL_L_125 wI_X6_room wSe_X6_X6_room wIn_X6 wC_X6_room rfl rfl (by decide) dL_law_889 (Nat.le_of_ble_eq_true rfl) ⟨by dsimp only [rmN, room_1]; omega, by dsimp only [rmN, room_1]; omega⟩ (fun x889 u889 h889 => ?_)
  refine j_perm (pr_38_19_20_26_27_24_25 _ _ _ _ _ _ _ _ _ _ _ _ _ _ _ _ _ _ _ _ _ _ _ _ _ _ _ _ _ _ _ _ _ _ _ _ _ _) ?_
  have hC : u889.1 2 = x877 ∧ (x877 = 0 → u877.2 0 = ndI x889) ∧ LRel S c L O t (u889.1) M V := by
    rcases h877 with ⟨A0, A1, A2⟩ | ⟨A0, A1⟩ <;> rcases h889 with ⟨P0, P1, P2⟩ | ⟨P0, Br⟩ <;> first | (exact ⟨P2.2.2.trans A1.symm, fun _ => A2.trans (congrArg ndI P1.symm), rel_keep hrel P2⟩) | (exact ⟨Br.2.2.trans A1.symm, fun h => absurd (A1.symm.trans h) (by decide), rel_keep hrel Br⟩) | (exfalso; omega)
  obtain ⟨hC1, hC2, hC3⟩ := hC
  have hC4 : t = t := rfl
  have hx : 0 ≤ x877 ∧ x877 ≤ 3 := by rcases h877 with ⟨A0, A1, A2⟩ | ⟨A0, A1⟩ <;> omega
  refine j_ist_6 C dL_law_892 rfl ?_
  refine j_aload_n C dL_law_894 rfl ?_
  refine j_perm (pm_38_19 _ _ _ _ _ _ _ _ _ _ _ _ _ _ _ _ _ _ _ _ _ _ _ _ _ _ _ _ _ _ _ _ _ _ _ _ _ _) ?_
  refine j_callVi C (As := []) (c_X6_thrown _ _ _ _ _ ) 0 nf_X6_thrown (jb := 0) rfl rfl wL_L_83 wI_X6_thrown wSe_X6_X6_thrown wIn_X6 wC_X6_thrown rfl rfl (by decide) dL_law_895 (Nat.le_of_ble_eq_true rfl) ⟨by dsimp only [rmN, room_1]; omega, by dsimp only [rmN, room_1]; omega⟩ (fun x895 u895 h895 => ?_)
  refine j_perm (pr_38_19 _ _ _ _ _ _ _ _ _ _ _ _ _ _ _ _ _ _ _ _ _ _ _ _ _ _ _ _ _ _ _ _ _ _ _ _ _ _) ?_
  refine j_iload C dL_law_898 rfl ?_
  refine j_icmpE (tgt := 905) C dL_law_900 (by decide) (by exact h895.trans hC1) ?_
  refine j_iload C dL_law_905 rfl ?_
  refine j_if_ne (tgt := 922) C dL_law_907 (by decide) (by omega) (by omega) (fun c907 => ?_) (fun c907 => ?_)
  · refine j_goto (tgt := 1341) C dL_law_922 (by decide) ?_
    exact j_lle (lv' := [_, _, _, _, _, none, none]) ⟨Or.inr rfl, ⟨Or.inr rfl, ⟨Or.inr rfl, ⟨Or.inr rfl, ⟨Or.inr rfl, ⟨Or.inl rfl, ⟨Or.inl rfl, trivial⟩⟩⟩⟩⟩⟩⟩ (j_widen (ce' := ce + 9) (sl' := sl + 333) (by first | omega | (dsimp only [rmN]; omega)) (by first | omega | (dsimp only [rmN]; omega)) (kk _ _ _ _ _ _ _ _ _ _ _ _ _ _ _ _ _ _ _ _ _ _ _ _ _ _ _ _ _ _ _ _ _ _ _ _ hC3 hC4))
  · refine j_aload_n C dL_law_910 rfl ?_
    refine j_iconst C dL_law_911 ?_
    refine j_lald C 0 0 rfl rfl dL_law_912 (by decide) (by omega) (by omega) ?_
    refine j_iload C dL_law_913 rfl ?_
    refine j_i2lN C dL_law_915 ?_
    refine j_lcmpE C dL_law_916 (by exact hC2 c907) ?_
    refine j_if_eq (tgt := 922) C dL_law_917 (by decide) (by omega) (by omega) (fun c917 => ?_) (fun c917 => ?_)
    · refine j_goto (tgt := 1341) C dL_law_922 (by decide) ?_
      exact j_lle (lv' := [_, _, _, _, _, none, none]) ⟨Or.inr rfl, ⟨Or.inr rfl, ⟨Or.inr rfl, ⟨Or.inr rfl, ⟨Or.inr rfl, ⟨Or.inl rfl, ⟨Or.inl rfl, trivial⟩⟩⟩⟩⟩⟩⟩ (j_widen (ce' := ce + 9) (sl' := sl + 333) (by first | omega | (dsimp only [rmN]; omega)) (by first | omega | (dsimp only [rmN]; omega)) (kk _ _ _ _ _ _ _ _ _ _ _ _ _ _ _ _ _ _ _ _ _ _ _ _ _ _ _ _ _ _ _ _ _ _ _ _ hC3 hC4))
    · exact absurd rfl c917
set_option maxHeartbeats 1600000 in
set_option maxRecDepth 100000 in
theorem c_law_value {K : KT} (C : Cx K cL_law 7 RL (some .boolean) room_1) (XK : WX K) (hfl : (kl K).stackTraces = false) {b0 Ls : Nat} {xs : Nat → Int32} (hX : va_X b0 Ls xs (ks K) (ks K).heap) (hbl : b0 < (ks K).heap.size) (hbA : ¬ kA K b0) (hL : Ls ≤ 2560) {q v w9 : Nat} {b tb r m o d a : Nat → Nat} (c : Int) (L : List ((Nat → Nat) × (Int → Int))) (z : Int) (X : Int → Int) (F : Int → Int) (Nx : Int → Int) (f0 : Int → Int) (th : Int → Int) (S : Int → Int) (T : Int → Int) (Xs : Int → Int) (Es : Int → Int) (Ds : Int → Int) (Bs : Int → Int) (O : Int → Int) (t : Int → Int) (Y : Int → Int) (G : Int → Int) (M : Int → Int) (TR : Int → Int) (V : Int → Int) (tt : Int → Int) (D1 : Int → Int) (B1 : Int → Int) (R : Int → Int) (N1 : Int → Int) (BR : Int → Int) (X1 : Int → Int) (L1 : Int → Int) (F1 : Int → Int) (Y1 : Int → Int) (w1 : Int → Int) (w2 : Int → Int) (w3 : Int → Int) (w4 : Int → Int) (w5 : Int → Int) {ce sl : Nat} (hce : ce ≤ 600000) (hsl : sl ≤ 7000000) {i : Int} (hi : 0 ≤ i ∧ i + 5 ≤ (Ls : Int)) (hrel : LRel S c L O t G M V) (htt : t = tt) (kk : KK K b0 q v w9 b tb r m o d a i ce sl) : J K ce sl [[(w9, lJ ((kC K) 3) 1 Y)], prO q v b tb r m o c, svB (kC K) v L, rgO r (d 0) z, dbO d, [(d 1, aJ ((kC K) 0) 49 X)], [(d 2, aJ ((kC K) 0) 49 F)], [(d 3, aJ ((kC K) 0) 40 Nx)], [(r 1, aJ ((kC K) 0) 2365 f0)], [(r 2, aJ ((kC K) 0) 49 th)], bk (kC K) b S, bk (kC K) tb T, rmO m, [(m 1, aJ ((kC K) 0) 40 Xs)], [(m 2, aJ ((kC K) 0) 7 Es)], [(m 3, aJ ((kC K) 0) 7 Ds)], [(m 4, aJ ((kC K) 0) 7 Bs)], orO o O, [(o 1, aJ ((kC K) 0) 100 t)], mO a G, [(a 1, aJ ((kC K) 0) 325 M)], [(a 2, aJ ((kC K) 0) 325 TR)], [(a 3, aJ ((kC K) 0) 1300 V)], [(a 4, aJ ((kC K) 0) 100 tt)], [(a 5, aJ ((kC K) 0) 49 D1)], [(a 6, aJ ((kC K) 0) 490 B1)], [(a 7, aJ ((kC K) 0) 8 R)], [(a 8, aJ ((kC K) 0) 9 N1)], [(a 9, aJ ((kC K) 0) 8 BR)], [(a 10, aJ ((kC K) 0) 40 X1)], [(a 11, aJ ((kC K) 0) 7 L1)], [(a 12, aJ ((kC K) 0) 7 F1)], [(a 13, aJ ((kC K) 0) 7 Y1)], [(a 14, aJ ((kC K) 0) 50 w1)], [(a 15, aJ ((kC K) 0) 50 w2)], [(a 16, aJ ((kC K) 0) 50 w3)], [(a 17, aJ ((kC K) 0) 50 w4)], [(a 18, aJ ((kC K) 0) 50 w5)]] [some (.ref b0), some (.ref q), some (.ref (a 0)), some (.ref w9), some (.int (iI i)), none, none] 925 [] := by
  subst htt
  have hI := hrel.1.1
  have hz := hrel.1.2.1
  have hAg := hrel.1.2.2
  have hc : 0 ≤ c ∧ c ≤ 4 ∧ c ≤ (L.length : Int) ∧ L.length ≤ 4 := hrel.2.1.1
  have hLz := hrel.2.1.2.1
  have hg0 := hrel.2.2.1.1
  have hg1 := hrel.2.2.1.2
  have ht := hrel.2.2.2
  have hO : 0 ≤ O 0 ∧ O 0 ≤ 100 := ht.1
  have hN := hI.2.1
  have hQ := hI.1
  have hcp := cp_Inv (T := T) hI
  have hb1 := gX_bd xs (i + 1)
  have hb2 := gX_bd xs (i + 2)
  have hb3 := gX_bd xs (i + 3)
  have hb4 := gX_bd xs (i + 4)
  refine j_aload_n C dL_law_925 rfl ?_
  refine j_aload_n C dL_law_926 rfl ?_
  refine j_iload C dL_law_927 rfl ?_
  refine j_iconst C dL_law_929 ?_
  refine j_iadd C dL_law_930 ?_
  refine j_sld C hX hbl hbA hL dL_law_931 (by omega) (by omega) ?_
  refine j_aload_n C dL_law_932 rfl ?_
  refine j_perm (pm_38_0_1_3_4_5_6_7_8_10 _ _ _ _ _ _ _ _ _ _ _ _ _ _ _ _ _ _ _ _ _ _ _ _ _ _ _ _ _ _ _ _ _ _ _ _ _ _) ?_
  refine j_callW C XK (As := [.ref _, .int (iI _), .ref _]) (c_L_value _ _ _ _ _ _ _ _ _ _ (d) _ _ _ _ _ _ _ _ _ _ (by first | assumption | omega) (by first | assumption | omega) (by first | assumption | omega)) 3 nf_L_value.2 wL_L_126 wS_L_value wIn_L wC_L_value rfl rfl (by decide) dL_law_933 (Nat.le_of_ble_eq_true rfl) ⟨by dsimp only [rmN, room_1]; omega, by dsimp only [rmN, room_1]; omega⟩ (fun x933 u933 h933 => ?_)
  refine j_perm (pr_38_0_1_3_4_5_6_7_8_10 _ _ _ _ _ _ _ _ _ _ _ _ _ _ _ _ _ _ _ _ _ _ _ _ _ _ _ _ _ _ _ _ _ _ _ _ _ _) ?_
  refine j_ist_5 C dL_law_936 rfl ?_
  refine j_aload_n C dL_law_938 rfl ?_
  refine j_aload_n C dL_law_939 rfl ?_
  refine j_iload C dL_law_940 rfl ?_
  refine j_iconst C dL_law_942 ?_
  refine j_iadd C dL_law_943 ?_
  refine j_sld C hX hbl hbA hL dL_law_944 (by omega) (by omega) ?_
  refine j_perm (pm_38_19_20_26_27_24_25 _ _ _ _ _ _ _ _ _ _ _ _ _ _ _ _ _ _ _ _ _ _ _ _ _ _ _ _ _ _ _ _ _ _ _ _ _ _) ?_
  refine j_callVi C (As := [.int (iI _)]) (c_X6_value _ _ _ _ _ _ _ _ _ _ (S) _ (by first | assumption | omega) (by first | assumption | omega) (by first | assumption | omega)) 1 nf_X6_value (jb := 0) rfl rfl wL_L_128 wI_X6_value wSe_X6_X6_value wIn_X6 wC_X6_value rfl rfl (by decide) dL_law_945 (Nat.le_of_ble_eq_true rfl) ⟨by dsimp only [rmN, room_1]; omega, by dsimp only [rmN, room_1]; omega⟩ (fun x945 u945 h945 => ?_)
  refine j_perm (pr_38_19_20_26_27_24_25 _ _ _ _ _ _ _ _ _ _ _ _ _ _ _ _ _ _ _ _ _ _ _ _ _ _ _ _ _ _ _ _ _ _ _ _ _ _) ?_
  have hC : u945.1 2 = x933 ∧ (x933 = 0 → u933.2 0 = ndI x945) ∧ LRel S c L O t (u945.1) M V := by
    rcases h933 with ⟨A0, A1, A2⟩ | ⟨A0, A1⟩ <;> rcases h945 with ⟨P0, P1, P2⟩ | ⟨P0, Br⟩ <;> first | (exact ⟨P2.2.2.trans A1.symm, fun _ => A2.trans (congrArg ndI P1.symm), rel_keep hrel P2⟩) | (exact ⟨Br.2.2.trans A1.symm, fun h => absurd (A1.symm.trans h) (by decide), rel_keep hrel Br⟩) | (exfalso; omega)
  obtain ⟨hC1, hC2, hC3⟩ := hC
  have hC4 : t = t := rfl
  have hx : 0 ≤ x933 ∧ x933 ≤ 3 := by rcases h933 with ⟨A0, A1, A2⟩ | ⟨A0, A1⟩ <;> omega
  refine j_ist_6 C dL_law_948 rfl ?_
  refine j_aload_n C dL_law_950 rfl ?_
  refine j_perm (pm_38_19 _ _ _ _ _ _ _ _ _ _ _ _ _ _ _ _ _ _ _ _ _ _ _ _ _ _ _ _ _ _ _ _ _ _ _ _ _ _) ?_
  refine j_callVi C (As := []) (c_X6_thrown _ _ _ _ _ ) 0 nf_X6_thrown (jb := 0) rfl rfl wL_L_83 wI_X6_thrown wSe_X6_X6_thrown wIn_X6 wC_X6_thrown rfl rfl (by decide) dL_law_951 (Nat.le_of_ble_eq_true rfl) ⟨by dsimp only [rmN, room_1]; omega, by dsimp only [rmN, room_1]; omega⟩ (fun x951 u951 h951 => ?_)
  refine j_perm (pr_38_19 _ _ _ _ _ _ _ _ _ _ _ _ _ _ _ _ _ _ _ _ _ _ _ _ _ _ _ _ _ _ _ _ _ _ _ _ _ _) ?_
  refine j_iload C dL_law_954 rfl ?_
  refine j_icmpE (tgt := 961) C dL_law_956 (by decide) (by exact h951.trans hC1) ?_
  refine j_iload C dL_law_961 rfl ?_
  refine j_if_ne (tgt := 978) C dL_law_963 (by decide) (by omega) (by omega) (fun c963 => ?_) (fun c963 => ?_)
  · refine j_goto (tgt := 1341) C dL_law_978 (by decide) ?_
    exact j_lle (lv' := [_, _, _, _, _, none, none]) ⟨Or.inr rfl, ⟨Or.inr rfl, ⟨Or.inr rfl, ⟨Or.inr rfl, ⟨Or.inr rfl, ⟨Or.inl rfl, ⟨Or.inl rfl, trivial⟩⟩⟩⟩⟩⟩⟩ (j_widen (ce' := ce + 9) (sl' := sl + 333) (by first | omega | (dsimp only [rmN]; omega)) (by first | omega | (dsimp only [rmN]; omega)) (kk _ _ _ _ _ _ _ _ _ _ _ _ _ _ _ _ _ _ _ _ _ _ _ _ _ _ _ _ _ _ _ _ _ _ _ _ hC3 hC4))
  · refine j_aload_n C dL_law_966 rfl ?_
    refine j_iconst C dL_law_967 ?_
    refine j_lald C 0 0 rfl rfl dL_law_968 (by decide) (by omega) (by omega) ?_
    refine j_iload C dL_law_969 rfl ?_
    refine j_i2lN C dL_law_971 ?_
    refine j_lcmpE C dL_law_972 (by exact hC2 c963) ?_
    refine j_if_eq (tgt := 978) C dL_law_973 (by decide) (by omega) (by omega) (fun c973 => ?_) (fun c973 => ?_)
    · refine j_goto (tgt := 1341) C dL_law_978 (by decide) ?_
      exact j_lle (lv' := [_, _, _, _, _, none, none]) ⟨Or.inr rfl, ⟨Or.inr rfl, ⟨Or.inr rfl, ⟨Or.inr rfl, ⟨Or.inr rfl, ⟨Or.inl rfl, ⟨Or.inl rfl, trivial⟩⟩⟩⟩⟩⟩⟩ (j_widen (ce' := ce + 9) (sl' := sl + 333) (by first | omega | (dsimp only [rmN]; omega)) (by first | omega | (dsimp only [rmN]; omega)) (kk _ _ _ _ _ _ _ _ _ _ _ _ _ _ _ _ _ _ _ _ _ _ _ _ _ _ _ _ _ _ _ _ _ _ _ _ hC3 hC4))
    · exact absurd rfl c973
set_option maxHeartbeats 1600000 in
set_option maxRecDepth 100000 in
theorem c_law_saving {K : KT} (C : Cx K cL_law 7 RL (some .boolean) room_1) (XK : WX K) (hfl : (kl K).stackTraces = false) {b0 Ls : Nat} {xs : Nat → Int32} (hX : va_X b0 Ls xs (ks K) (ks K).heap) (hbl : b0 < (ks K).heap.size) (hbA : ¬ kA K b0) (hL : Ls ≤ 2560) {q v w9 : Nat} {b tb r m o d a : Nat → Nat} (c : Int) (L : List ((Nat → Nat) × (Int → Int))) (z : Int) (X : Int → Int) (F : Int → Int) (Nx : Int → Int) (f0 : Int → Int) (th : Int → Int) (S : Int → Int) (T : Int → Int) (Xs : Int → Int) (Es : Int → Int) (Ds : Int → Int) (Bs : Int → Int) (O : Int → Int) (t : Int → Int) (Y : Int → Int) (G : Int → Int) (M : Int → Int) (TR : Int → Int) (V : Int → Int) (tt : Int → Int) (D1 : Int → Int) (B1 : Int → Int) (R : Int → Int) (N1 : Int → Int) (BR : Int → Int) (X1 : Int → Int) (L1 : Int → Int) (F1 : Int → Int) (Y1 : Int → Int) (w1 : Int → Int) (w2 : Int → Int) (w3 : Int → Int) (w4 : Int → Int) (w5 : Int → Int) {ce sl : Nat} (hce : ce ≤ 600000) (hsl : sl ≤ 7000000) {i : Int} (hi : 0 ≤ i ∧ i + 5 ≤ (Ls : Int)) (hrel : LRel S c L O t G M V) (htt : t = tt) (kk : KK K b0 q v w9 b tb r m o d a i ce sl) : J K ce sl [[(w9, lJ ((kC K) 3) 1 Y)], prO q v b tb r m o c, svB (kC K) v L, rgO r (d 0) z, dbO d, [(d 1, aJ ((kC K) 0) 49 X)], [(d 2, aJ ((kC K) 0) 49 F)], [(d 3, aJ ((kC K) 0) 40 Nx)], [(r 1, aJ ((kC K) 0) 2365 f0)], [(r 2, aJ ((kC K) 0) 49 th)], bk (kC K) b S, bk (kC K) tb T, rmO m, [(m 1, aJ ((kC K) 0) 40 Xs)], [(m 2, aJ ((kC K) 0) 7 Es)], [(m 3, aJ ((kC K) 0) 7 Ds)], [(m 4, aJ ((kC K) 0) 7 Bs)], orO o O, [(o 1, aJ ((kC K) 0) 100 t)], mO a G, [(a 1, aJ ((kC K) 0) 325 M)], [(a 2, aJ ((kC K) 0) 325 TR)], [(a 3, aJ ((kC K) 0) 1300 V)], [(a 4, aJ ((kC K) 0) 100 tt)], [(a 5, aJ ((kC K) 0) 49 D1)], [(a 6, aJ ((kC K) 0) 490 B1)], [(a 7, aJ ((kC K) 0) 8 R)], [(a 8, aJ ((kC K) 0) 9 N1)], [(a 9, aJ ((kC K) 0) 8 BR)], [(a 10, aJ ((kC K) 0) 40 X1)], [(a 11, aJ ((kC K) 0) 7 L1)], [(a 12, aJ ((kC K) 0) 7 F1)], [(a 13, aJ ((kC K) 0) 7 Y1)], [(a 14, aJ ((kC K) 0) 50 w1)], [(a 15, aJ ((kC K) 0) 50 w2)], [(a 16, aJ ((kC K) 0) 50 w3)], [(a 17, aJ ((kC K) 0) 50 w4)], [(a 18, aJ ((kC K) 0) 50 w5)]] [some (.ref b0), some (.ref q), some (.ref (a 0)), some (.ref w9), some (.int (iI i)), none, none] 981 [] := by
  subst htt
  have hI := hrel.1.1
  have hz := hrel.1.2.1
  have hAg := hrel.1.2.2
  have hc : 0 ≤ c ∧ c ≤ 4 ∧ c ≤ (L.length : Int) ∧ L.length ≤ 4 := hrel.2.1.1
  have hLz := hrel.2.1.2.1
  have hg0 := hrel.2.2.1.1
  have hg1 := hrel.2.2.1.2
  have ht := hrel.2.2.2
  have hO : 0 ≤ O 0 ∧ O 0 ≤ 100 := ht.1
  have hN := hI.2.1
  have hQ := hI.1
  have hcp := cp_Inv (T := T) hI
  have hb1 := gX_bd xs (i + 1)
  have hb2 := gX_bd xs (i + 2)
  have hb3 := gX_bd xs (i + 3)
  have hb4 := gX_bd xs (i + 4)
  refine j_aload_n C dL_law_981 rfl ?_
  refine j_aload_n C dL_law_982 rfl ?_
  refine j_iload C dL_law_983 rfl ?_
  refine j_iconst C dL_law_985 ?_
  refine j_iadd C dL_law_986 ?_
  refine j_sld C hX hbl hbA hL dL_law_987 (by omega) (by omega) ?_
  refine j_aload_n C dL_law_988 rfl ?_
  refine j_perm (pm_38_0_1_3_4_5_6_7_8_10 _ _ _ _ _ _ _ _ _ _ _ _ _ _ _ _ _ _ _ _ _ _ _ _ _ _ _ _ _ _ _ _ _ _ _ _ _ _) ?_
  refine j_callW C XK (As := [.ref _, .int (iI _), .ref _]) (c_L_saving _ _ _ _ _ _ _ _ _ _ (d) _ _ _ _ _ _ _ _ _ _ (by first | assumption | omega) (by first | assumption | omega) (by first | assumption | omega)) 3 nf_L_saving.2 wL_L_129 wS_L_saving wIn_L wC_L_saving rfl rfl (by decide) dL_law_989 (Nat.le_of_ble_eq_true rfl) ⟨by dsimp only [rmN, room_1]; omega, by dsimp only [rmN, room_1]; omega⟩ (fun x989 u989 h989 => ?_)
  refine j_perm (pr_38_0_1_3_4_5_6_7_8_10 _ _ _ _ _ _ _ _ _ _ _ _ _ _ _ _ _ _ _ _ _ _ _ _ _ _ _ _ _ _ _ _ _ _ _ _ _ _) ?_
  refine j_ist_5 C dL_law_992 rfl ?_
  refine j_aload_n C dL_law_994 rfl ?_
  refine j_aload_n C dL_law_995 rfl ?_
  refine j_iload C dL_law_996 rfl ?_
  refine j_iconst C dL_law_998 ?_
  refine j_iadd C dL_law_999 ?_
  refine j_sld C hX hbl hbA hL dL_law_1000 (by omega) (by omega) ?_
  refine j_perm (pm_38_19_20_26_27_24_25 _ _ _ _ _ _ _ _ _ _ _ _ _ _ _ _ _ _ _ _ _ _ _ _ _ _ _ _ _ _ _ _ _ _ _ _ _ _) ?_
  refine j_callVi C (As := [.int (iI _)]) (c_X6_saving _ _ _ _ _ _ _ _ _ _ (S) _ (by first | assumption | omega) (by first | assumption | omega) (by first | assumption | omega)) 1 nf_X6_saving (jb := 0) rfl rfl wL_L_131 wI_X6_saving wSe_X6_X6_saving wIn_X6 wC_X6_saving rfl rfl (by decide) dL_law_1001 (Nat.le_of_ble_eq_true rfl) ⟨by dsimp only [rmN, room_1]; omega, by dsimp only [rmN, room_1]; omega⟩ (fun x1001 u1001 h1001 => ?_)
  refine j_perm (pr_38_19_20_26_27_24_25 _ _ _ _ _ _ _ _ _ _ _ _ _ _ _ _ _ _ _ _ _ _ _ _ _ _ _ _ _ _ _ _ _ _ _ _ _ _) ?_
  have hC : u1001.1 2 = x989 ∧ (x989 = 0 → u989.2 0 = ndI x1001) ∧ LRel S c L O t (u1001.1) M V := by
    rcases h989 with ⟨A0, A1, A2⟩ | ⟨A0, A1⟩ <;> rcases h1001 with ⟨P0, P1, P2⟩ | ⟨P0, Br⟩ <;> first | (exact ⟨P2.2.2.trans A1.symm, fun _ => A2.trans (congrArg ndI P1.symm), rel_keep hrel P2⟩) | (exact ⟨Br.2.2.trans A1.symm, fun h => absurd (A1.symm.trans h) (by decide), rel_keep hrel Br⟩) | (exfalso; omega)
  obtain ⟨hC1, hC2, hC3⟩ := hC
  have hC4 : t = t := rfl
  have hx : 0 ≤ x989 ∧ x989 ≤ 3 := by rcases h989 with ⟨A0, A1, A2⟩ | ⟨A0, A1⟩ <;> omega
  refine j_ist_6 C dL_law_1004 rfl ?_
  refine j_aload_n C dL_law_1006 rfl ?_
  refine j_perm (pm_38_19 _ _ _ _ _ _ _ _ _ _ _ _ _ _ _ _ _ _ _ _ _ _ _ _ _ _ _ _ _ _ _ _ _ _ _ _ _ _) ?_
  refine j_callVi C (As := []) (c_X6_thrown _ _ _ _ _ ) 0 nf_X6_thrown (jb := 0) rfl rfl wL_L_83 wI_X6_thrown wSe_X6_X6_thrown wIn_X6 wC_X6_thrown rfl rfl (by decide) dL_law_1007 (Nat.le_of_ble_eq_true rfl) ⟨by dsimp only [rmN, room_1]; omega, by dsimp only [rmN, room_1]; omega⟩ (fun x1007 u1007 h1007 => ?_)
  refine j_perm (pr_38_19 _ _ _ _ _ _ _ _ _ _ _ _ _ _ _ _ _ _ _ _ _ _ _ _ _ _ _ _ _ _ _ _ _ _ _ _ _ _) ?_
  refine j_iload C dL_law_1010 rfl ?_
  refine j_icmpE (tgt := 1017) C dL_law_1012 (by decide) (by exact h1007.trans hC1) ?_
  refine j_iload C dL_law_1017 rfl ?_
  refine j_if_ne (tgt := 1034) C dL_law_1019 (by decide) (by omega) (by omega) (fun c1019 => ?_) (fun c1019 => ?_)
  · refine j_goto (tgt := 1341) C dL_law_1034 (by decide) ?_
    exact j_lle (lv' := [_, _, _, _, _, none, none]) ⟨Or.inr rfl, ⟨Or.inr rfl, ⟨Or.inr rfl, ⟨Or.inr rfl, ⟨Or.inr rfl, ⟨Or.inl rfl, ⟨Or.inl rfl, trivial⟩⟩⟩⟩⟩⟩⟩ (j_widen (ce' := ce + 9) (sl' := sl + 333) (by first | omega | (dsimp only [rmN]; omega)) (by first | omega | (dsimp only [rmN]; omega)) (kk _ _ _ _ _ _ _ _ _ _ _ _ _ _ _ _ _ _ _ _ _ _ _ _ _ _ _ _ _ _ _ _ _ _ _ _ hC3 hC4))
  · refine j_aload_n C dL_law_1022 rfl ?_
    refine j_iconst C dL_law_1023 ?_
    refine j_lald C 0 0 rfl rfl dL_law_1024 (by decide) (by omega) (by omega) ?_
    refine j_iload C dL_law_1025 rfl ?_
    refine j_i2lN C dL_law_1027 ?_
    refine j_lcmpE C dL_law_1028 (by exact hC2 c1019) ?_
    refine j_if_eq (tgt := 1034) C dL_law_1029 (by decide) (by omega) (by omega) (fun c1029 => ?_) (fun c1029 => ?_)
    · refine j_goto (tgt := 1341) C dL_law_1034 (by decide) ?_
      exact j_lle (lv' := [_, _, _, _, _, none, none]) ⟨Or.inr rfl, ⟨Or.inr rfl, ⟨Or.inr rfl, ⟨Or.inr rfl, ⟨Or.inr rfl, ⟨Or.inl rfl, ⟨Or.inl rfl, trivial⟩⟩⟩⟩⟩⟩⟩ (j_widen (ce' := ce + 9) (sl' := sl + 333) (by first | omega | (dsimp only [rmN]; omega)) (by first | omega | (dsimp only [rmN]; omega)) (kk _ _ _ _ _ _ _ _ _ _ _ _ _ _ _ _ _ _ _ _ _ _ _ _ _ _ _ _ _ _ _ _ _ _ _ _ hC3 hC4))
    · exact absurd rfl c1029
set_option maxHeartbeats 1600000 in
set_option maxRecDepth 100000 in
theorem c_law_ringsWithout {K : KT} (C : Cx K cL_law 7 RL (some .boolean) room_1) (XK : WX K) (hfl : (kl K).stackTraces = false) {b0 Ls : Nat} {xs : Nat → Int32} (hX : va_X b0 Ls xs (ks K) (ks K).heap) (hbl : b0 < (ks K).heap.size) (hbA : ¬ kA K b0) (hL : Ls ≤ 2560) {q v w9 : Nat} {b tb r m o d a : Nat → Nat} (c : Int) (L : List ((Nat → Nat) × (Int → Int))) (z : Int) (X : Int → Int) (F : Int → Int) (Nx : Int → Int) (f0 : Int → Int) (th : Int → Int) (S : Int → Int) (T : Int → Int) (Xs : Int → Int) (Es : Int → Int) (Ds : Int → Int) (Bs : Int → Int) (O : Int → Int) (t : Int → Int) (Y : Int → Int) (G : Int → Int) (M : Int → Int) (TR : Int → Int) (V : Int → Int) (tt : Int → Int) (D1 : Int → Int) (B1 : Int → Int) (R : Int → Int) (N1 : Int → Int) (BR : Int → Int) (X1 : Int → Int) (L1 : Int → Int) (F1 : Int → Int) (Y1 : Int → Int) (w1 : Int → Int) (w2 : Int → Int) (w3 : Int → Int) (w4 : Int → Int) (w5 : Int → Int) {ce sl : Nat} (hce : ce ≤ 600000) (hsl : sl ≤ 7000000) {i : Int} (hi : 0 ≤ i ∧ i + 5 ≤ (Ls : Int)) (hrel : LRel S c L O t G M V) (htt : t = tt) (kk : KK K b0 q v w9 b tb r m o d a i ce sl) : J K ce sl [[(w9, lJ ((kC K) 3) 1 Y)], prO q v b tb r m o c, svB (kC K) v L, rgO r (d 0) z, dbO d, [(d 1, aJ ((kC K) 0) 49 X)], [(d 2, aJ ((kC K) 0) 49 F)], [(d 3, aJ ((kC K) 0) 40 Nx)], [(r 1, aJ ((kC K) 0) 2365 f0)], [(r 2, aJ ((kC K) 0) 49 th)], bk (kC K) b S, bk (kC K) tb T, rmO m, [(m 1, aJ ((kC K) 0) 40 Xs)], [(m 2, aJ ((kC K) 0) 7 Es)], [(m 3, aJ ((kC K) 0) 7 Ds)], [(m 4, aJ ((kC K) 0) 7 Bs)], orO o O, [(o 1, aJ ((kC K) 0) 100 t)], mO a G, [(a 1, aJ ((kC K) 0) 325 M)], [(a 2, aJ ((kC K) 0) 325 TR)], [(a 3, aJ ((kC K) 0) 1300 V)], [(a 4, aJ ((kC K) 0) 100 tt)], [(a 5, aJ ((kC K) 0) 49 D1)], [(a 6, aJ ((kC K) 0) 490 B1)], [(a 7, aJ ((kC K) 0) 8 R)], [(a 8, aJ ((kC K) 0) 9 N1)], [(a 9, aJ ((kC K) 0) 8 BR)], [(a 10, aJ ((kC K) 0) 40 X1)], [(a 11, aJ ((kC K) 0) 7 L1)], [(a 12, aJ ((kC K) 0) 7 F1)], [(a 13, aJ ((kC K) 0) 7 Y1)], [(a 14, aJ ((kC K) 0) 50 w1)], [(a 15, aJ ((kC K) 0) 50 w2)], [(a 16, aJ ((kC K) 0) 50 w3)], [(a 17, aJ ((kC K) 0) 50 w4)], [(a 18, aJ ((kC K) 0) 50 w5)]] [some (.ref b0), some (.ref q), some (.ref (a 0)), some (.ref w9), some (.int (iI i)), none, none] 1076 [] := by
  subst htt
  have hI := hrel.1.1
  have hz := hrel.1.2.1
  have hAg := hrel.1.2.2
  have hc : 0 ≤ c ∧ c ≤ 4 ∧ c ≤ (L.length : Int) ∧ L.length ≤ 4 := hrel.2.1.1
  have hLz := hrel.2.1.2.1
  have hg0 := hrel.2.2.1.1
  have hg1 := hrel.2.2.1.2
  have ht := hrel.2.2.2
  have hO : 0 ≤ O 0 ∧ O 0 ≤ 100 := ht.1
  have hN := hI.2.1
  have hQ := hI.1
  have hcp := cp_Inv (T := T) hI
  have hb1 := gX_bd xs (i + 1)
  have hb2 := gX_bd xs (i + 2)
  have hb3 := gX_bd xs (i + 3)
  have hb4 := gX_bd xs (i + 4)
  refine j_aload_n C dL_law_1076 rfl ?_
  refine j_aload_n C dL_law_1077 rfl ?_
  refine j_iload C dL_law_1078 rfl ?_
  refine j_iconst C dL_law_1080 ?_
  refine j_iadd C dL_law_1081 ?_
  refine j_sld C hX hbl hbA hL dL_law_1082 (by omega) (by omega) ?_
  refine j_aload_n C dL_law_1083 rfl ?_
  refine j_perm (pm_38_0_1_3_4_5_6_7_8_9_10 _ _ _ _ _ _ _ _ _ _ _ _ _ _ _ _ _ _ _ _ _ _ _ _ _ _ _ _ _ _ _ _ _ _ _ _ _ _) ?_
  refine j_callW C XK (As := [.ref _, .int (iI _), .ref _]) (c_L_ringsWithout _ _ _ _ _ _ _ _ _ _ (d) _ _ _ _ _ _ _ _ _ _ _ (by first | assumption | omega) (by first | assumption | omega) (by first | assumption | omega)) 3 nf_L_ringsWithout.2 wL_L_144 wS_L_ringsWithout wIn_L wC_L_ringsWithout rfl rfl (by decide) dL_law_1084 (Nat.le_of_ble_eq_true rfl) ⟨by dsimp only [rmN, room_1]; omega, by dsimp only [rmN, room_1]; omega⟩ (fun x1084 u1084 h1084 => ?_)
  refine j_perm (pr_38_0_1_3_4_5_6_7_8_9_10 _ _ _ _ _ _ _ _ _ _ _ _ _ _ _ _ _ _ _ _ _ _ _ _ _ _ _ _ _ _ _ _ _ _ _ _ _ _) ?_
  refine j_ist_5 C dL_law_1087 rfl ?_
  refine j_aload_n C dL_law_1089 rfl ?_
  refine j_aload_n C dL_law_1090 rfl ?_
  refine j_iload C dL_law_1091 rfl ?_
  refine j_iconst C dL_law_1093 ?_
  refine j_iadd C dL_law_1094 ?_
  refine j_sld C hX hbl hbA hL dL_law_1095 (by omega) (by omega) ?_
  refine j_perm (pm_38_19_20_26_27_24_25 _ _ _ _ _ _ _ _ _ _ _ _ _ _ _ _ _ _ _ _ _ _ _ _ _ _ _ _ _ _ _ _ _ _ _ _ _ _) ?_
  refine j_callVi C (As := [.int (iI _)]) (c_X6_ringsWithout _ _ _ _ _ _ _ _ _ _ (S) _ (by first | assumption | omega) (by first | assumption | omega) (by first | assumption | omega)) 1 nf_X6_ringsWithout (jb := 0) rfl rfl wL_L_146 wI_X6_ringsWithout wSe_X6_X6_ringsWithout wIn_X6 wC_X6_ringsWithout rfl rfl (by decide) dL_law_1096 (Nat.le_of_ble_eq_true rfl) ⟨by dsimp only [rmN, room_1]; omega, by dsimp only [rmN, room_1]; omega⟩ (fun x1096 u1096 h1096 => ?_)
  refine j_perm (pr_38_19_20_26_27_24_25 _ _ _ _ _ _ _ _ _ _ _ _ _ _ _ _ _ _ _ _ _ _ _ _ _ _ _ _ _ _ _ _ _ _ _ _ _ _) ?_
  have hC : u1096.1 2 = x1084 ∧ (x1084 = 0 → u1084.2.2 0 = ndI x1096) ∧ LRel S c L O t (u1096.1) M V := by
    rcases h1084 with ⟨A0, A1, A2⟩ | ⟨A0, A1⟩ <;> rcases h1096 with ⟨P0, P1, P2⟩ | ⟨P0, Br⟩ <;> first | (exact ⟨P2.2.2.trans A1.symm, fun _ => A2.trans (congrArg ndI P1.symm), rel_keep hrel P2⟩) | (exact ⟨Br.2.2.trans A1.symm, fun h => absurd (A1.symm.trans h) (by decide), rel_keep hrel Br⟩) | (exfalso; omega)
  obtain ⟨hC1, hC2, hC3⟩ := hC
  have hC4 : t = t := rfl
  have hx : 0 ≤ x1084 ∧ x1084 ≤ 3 := by rcases h1084 with ⟨A0, A1, A2⟩ | ⟨A0, A1⟩ <;> omega
  refine j_ist_6 C dL_law_1099 rfl ?_
  refine j_aload_n C dL_law_1101 rfl ?_
  refine j_perm (pm_38_19 _ _ _ _ _ _ _ _ _ _ _ _ _ _ _ _ _ _ _ _ _ _ _ _ _ _ _ _ _ _ _ _ _ _ _ _ _ _) ?_
  refine j_callVi C (As := []) (c_X6_thrown _ _ _ _ _ ) 0 nf_X6_thrown (jb := 0) rfl rfl wL_L_83 wI_X6_thrown wSe_X6_X6_thrown wIn_X6 wC_X6_thrown rfl rfl (by decide) dL_law_1102 (Nat.le_of_ble_eq_true rfl) ⟨by dsimp only [rmN, room_1]; omega, by dsimp only [rmN, room_1]; omega⟩ (fun x1102 u1102 h1102 => ?_)
  refine j_perm (pr_38_19 _ _ _ _ _ _ _ _ _ _ _ _ _ _ _ _ _ _ _ _ _ _ _ _ _ _ _ _ _ _ _ _ _ _ _ _ _ _) ?_
  refine j_iload C dL_law_1105 rfl ?_
  refine j_icmpE (tgt := 1112) C dL_law_1107 (by decide) (by exact h1102.trans hC1) ?_
  refine j_iload C dL_law_1112 rfl ?_
  refine j_if_ne (tgt := 1129) C dL_law_1114 (by decide) (by omega) (by omega) (fun c1114 => ?_) (fun c1114 => ?_)
  · refine j_goto (tgt := 1341) C dL_law_1129 (by decide) ?_
    exact j_lle (lv' := [_, _, _, _, _, none, none]) ⟨Or.inr rfl, ⟨Or.inr rfl, ⟨Or.inr rfl, ⟨Or.inr rfl, ⟨Or.inr rfl, ⟨Or.inl rfl, ⟨Or.inl rfl, trivial⟩⟩⟩⟩⟩⟩⟩ (j_widen (ce' := ce + 9) (sl' := sl + 333) (by first | omega | (dsimp only [rmN]; omega)) (by first | omega | (dsimp only [rmN]; omega)) (kk _ _ _ _ _ _ _ _ _ _ _ _ _ _ _ _ _ _ _ _ _ _ _ _ _ _ _ _ _ _ _ _ _ _ _ _ hC3 hC4))
  · refine j_aload_n C dL_law_1117 rfl ?_
    refine j_iconst C dL_law_1118 ?_
    refine j_lald C 0 0 rfl rfl dL_law_1119 (by decide) (by omega) (by omega) ?_
    refine j_iload C dL_law_1120 rfl ?_
    refine j_i2lN C dL_law_1122 ?_
    refine j_lcmpE C dL_law_1123 (by exact hC2 c1114) ?_
    refine j_if_eq (tgt := 1129) C dL_law_1124 (by decide) (by omega) (by omega) (fun c1124 => ?_) (fun c1124 => ?_)
    · refine j_goto (tgt := 1341) C dL_law_1129 (by decide) ?_
      exact j_lle (lv' := [_, _, _, _, _, none, none]) ⟨Or.inr rfl, ⟨Or.inr rfl, ⟨Or.inr rfl, ⟨Or.inr rfl, ⟨Or.inr rfl, ⟨Or.inl rfl, ⟨Or.inl rfl, trivial⟩⟩⟩⟩⟩⟩⟩ (j_widen (ce' := ce + 9) (sl' := sl + 333) (by first | omega | (dsimp only [rmN]; omega)) (by first | omega | (dsimp only [rmN]; omega)) (kk _ _ _ _ _ _ _ _ _ _ _ _ _ _ _ _ _ _ _ _ _ _ _ _ _ _ _ _ _ _ _ _ _ _ _ _ hC3 hC4))
    · exact absurd rfl c1124
set_option maxHeartbeats 1600000 in
set_option maxRecDepth 100000 in
theorem c_law_mutual {K : KT} (C : Cx K cL_law 7 RL (some .boolean) room_1) (XK : WX K) (hfl : (kl K).stackTraces = false) {b0 Ls : Nat} {xs : Nat → Int32} (hX : va_X b0 Ls xs (ks K) (ks K).heap) (hbl : b0 < (ks K).heap.size) (hbA : ¬ kA K b0) (hL : Ls ≤ 2560) {q v w9 : Nat} {b tb r m o d a : Nat → Nat} (c : Int) (L : List ((Nat → Nat) × (Int → Int))) (z : Int) (X : Int → Int) (F : Int → Int) (Nx : Int → Int) (f0 : Int → Int) (th : Int → Int) (S : Int → Int) (T : Int → Int) (Xs : Int → Int) (Es : Int → Int) (Ds : Int → Int) (Bs : Int → Int) (O : Int → Int) (t : Int → Int) (Y : Int → Int) (G : Int → Int) (M : Int → Int) (TR : Int → Int) (V : Int → Int) (tt : Int → Int) (D1 : Int → Int) (B1 : Int → Int) (R : Int → Int) (N1 : Int → Int) (BR : Int → Int) (X1 : Int → Int) (L1 : Int → Int) (F1 : Int → Int) (Y1 : Int → Int) (w1 : Int → Int) (w2 : Int → Int) (w3 : Int → Int) (w4 : Int → Int) (w5 : Int → Int) {ce sl : Nat} (hce : ce ≤ 600000) (hsl : sl ≤ 7000000) {i : Int} (hi : 0 ≤ i ∧ i + 5 ≤ (Ls : Int)) (hrel : LRel S c L O t G M V) (htt : t = tt) (kk : KK K b0 q v w9 b tb r m o d a i ce sl) : J K ce sl [[(w9, lJ ((kC K) 3) 1 Y)], prO q v b tb r m o c, svB (kC K) v L, rgO r (d 0) z, dbO d, [(d 1, aJ ((kC K) 0) 49 X)], [(d 2, aJ ((kC K) 0) 49 F)], [(d 3, aJ ((kC K) 0) 40 Nx)], [(r 1, aJ ((kC K) 0) 2365 f0)], [(r 2, aJ ((kC K) 0) 49 th)], bk (kC K) b S, bk (kC K) tb T, rmO m, [(m 1, aJ ((kC K) 0) 40 Xs)], [(m 2, aJ ((kC K) 0) 7 Es)], [(m 3, aJ ((kC K) 0) 7 Ds)], [(m 4, aJ ((kC K) 0) 7 Bs)], orO o O, [(o 1, aJ ((kC K) 0) 100 t)], mO a G, [(a 1, aJ ((kC K) 0) 325 M)], [(a 2, aJ ((kC K) 0) 325 TR)], [(a 3, aJ ((kC K) 0) 1300 V)], [(a 4, aJ ((kC K) 0) 100 tt)], [(a 5, aJ ((kC K) 0) 49 D1)], [(a 6, aJ ((kC K) 0) 490 B1)], [(a 7, aJ ((kC K) 0) 8 R)], [(a 8, aJ ((kC K) 0) 9 N1)], [(a 9, aJ ((kC K) 0) 8 BR)], [(a 10, aJ ((kC K) 0) 40 X1)], [(a 11, aJ ((kC K) 0) 7 L1)], [(a 12, aJ ((kC K) 0) 7 F1)], [(a 13, aJ ((kC K) 0) 7 Y1)], [(a 14, aJ ((kC K) 0) 50 w1)], [(a 15, aJ ((kC K) 0) 50 w2)], [(a 16, aJ ((kC K) 0) 50 w3)], [(a 17, aJ ((kC K) 0) 50 w4)], [(a 18, aJ ((kC K) 0) 50 w5)]] [some (.ref b0), some (.ref q), some (.ref (a 0)), some (.ref w9), some (.int (iI i)), none, none] 1145 [] := by
  subst htt
  have hI := hrel.1.1
  have hz := hrel.1.2.1
  have hAg := hrel.1.2.2
  have hc : 0 ≤ c ∧ c ≤ 4 ∧ c ≤ (L.length : Int) ∧ L.length ≤ 4 := hrel.2.1.1
  have hLz := hrel.2.1.2.1
  have hg0 := hrel.2.2.1.1
  have hg1 := hrel.2.2.1.2
  have ht := hrel.2.2.2
  have hO : 0 ≤ O 0 ∧ O 0 ≤ 100 := ht.1
  have hN := hI.2.1
  have hQ := hI.1
  have hcp := cp_Inv (T := T) hI
  have hb1 := gX_bd xs (i + 1)
  have hb2 := gX_bd xs (i + 2)
  have hb3 := gX_bd xs (i + 3)
  have hb4 := gX_bd xs (i + 4)
  refine j_aload_n C dL_law_1145 rfl ?_
  refine j_aload_n C dL_law_1146 rfl ?_
  refine j_iload C dL_law_1147 rfl ?_
  refine j_iconst C dL_law_1149 ?_
  refine j_iadd C dL_law_1150 ?_
  refine j_sld C hX hbl hbA hL dL_law_1151 (by omega) (by omega) ?_
  refine j_aload_n C dL_law_1152 rfl ?_
  refine j_perm (pm_38_0_1_10 _ _ _ _ _ _ _ _ _ _ _ _ _ _ _ _ _ _ _ _ _ _ _ _ _ _ _ _ _ _ _ _ _ _ _ _ _ _) ?_
  refine j_callW C XK (As := [.ref _, .int (iI _), .ref _]) (c_L_mutual _ _ _ _ _ _ _ _ _ _ (d) _ _ _ _ _ (by first | assumption | omega) (by first | assumption | omega) (by first | assumption | omega)) 3 nf_L_mutual.2 wL_L_151 wS_L_mutual wIn_L wC_L_mutual rfl rfl (by decide) dL_law_1153 (Nat.le_of_ble_eq_true rfl) ⟨by dsimp only [rmN, room_1]; omega, by dsimp only [rmN, room_1]; omega⟩ (fun x1153 u1153 h1153 => ?_)
  refine j_perm (pr_38_0_1_10 _ _ _ _ _ _ _ _ _ _ _ _ _ _ _ _ _ _ _ _ _ _ _ _ _ _ _ _ _ _ _ _ _ _ _ _ _ _) ?_
  refine j_ist_5 C dL_law_1156 rfl ?_
  refine j_aload_n C dL_law_1158 rfl ?_
  refine j_aload_n C dL_law_1159 rfl ?_
  refine j_iload C dL_law_1160 rfl ?_
  refine j_iconst C dL_law_1162 ?_
  refine j_iadd C dL_law_1163 ?_
  refine j_sld C hX hbl hbA hL dL_law_1164 (by omega) (by omega) ?_
  refine j_perm (pm_38_19_20_27_24_25 _ _ _ _ _ _ _ _ _ _ _ _ _ _ _ _ _ _ _ _ _ _ _ _ _ _ _ _ _ _ _ _ _ _ _ _ _ _) ?_
  refine j_callVi C (As := [.int (iI _)]) (c_X6_mutual _ _ _ _ _ _ _ _ _ (S) _ (by first | assumption | omega) (by first | assumption | omega) (by first | assumption | omega)) 1 nf_X6_mutual (jb := 0) rfl rfl wL_L_153 wI_X6_mutual wSe_X6_X6_mutual wIn_X6 wC_X6_mutual rfl rfl (by decide) dL_law_1165 (Nat.le_of_ble_eq_true rfl) ⟨by dsimp only [rmN, room_1]; omega, by dsimp only [rmN, room_1]; omega⟩ (fun x1165 u1165 h1165 => ?_)
  refine j_perm (pr_38_19_20_27_24_25 _ _ _ _ _ _ _ _ _ _ _ _ _ _ _ _ _ _ _ _ _ _ _ _ _ _ _ _ _ _ _ _ _ _ _ _ _ _) ?_
  have hC : u1165.1 2 = x1153 ∧ (x1153 = 0 → u1153 0 = ndI x1165) ∧ LRel S c L O t (u1165.1) M V := by
    rcases h1153 with ⟨A0, A1, A2⟩ | ⟨A0, A1⟩ <;> rcases h1165 with ⟨P0, P1, P2⟩ | ⟨P0, Br⟩ <;> first | (exact ⟨P2.2.2.trans A1.symm, fun _ => A2.trans (congrArg ndI P1.symm), rel_keep hrel P2⟩) | (exact ⟨Br.2.2.trans A1.symm, fun h => absurd (A1.symm.trans h) (by decide), rel_keep hrel Br⟩) | (exfalso; omega)
  obtain ⟨hC1, hC2, hC3⟩ := hC
  have hC4 : t = t := rfl
  have hx : 0 ≤ x1153 ∧ x1153 ≤ 3 := by rcases h1153 with ⟨A0, A1, A2⟩ | ⟨A0, A1⟩ <;> omega
  refine j_ist_6 C dL_law_1168 rfl ?_
  refine j_aload_n C dL_law_1170 rfl ?_
  refine j_perm (pm_38_19 _ _ _ _ _ _ _ _ _ _ _ _ _ _ _ _ _ _ _ _ _ _ _ _ _ _ _ _ _ _ _ _ _ _ _ _ _ _) ?_
  refine j_callVi C (As := []) (c_X6_thrown _ _ _ _ _ ) 0 nf_X6_thrown (jb := 0) rfl rfl wL_L_83 wI_X6_thrown wSe_X6_X6_thrown wIn_X6 wC_X6_thrown rfl rfl (by decide) dL_law_1171 (Nat.le_of_ble_eq_true rfl) ⟨by dsimp only [rmN, room_1]; omega, by dsimp only [rmN, room_1]; omega⟩ (fun x1171 u1171 h1171 => ?_)
  refine j_perm (pr_38_19 _ _ _ _ _ _ _ _ _ _ _ _ _ _ _ _ _ _ _ _ _ _ _ _ _ _ _ _ _ _ _ _ _ _ _ _ _ _) ?_
  refine j_iload C dL_law_1174 rfl ?_
  refine j_icmpE (tgt := 1181) C dL_law_1176 (by decide) (by exact h1171.trans hC1) ?_
  refine j_iload C dL_law_1181 rfl ?_
  refine j_if_ne (tgt := 1198) C dL_law_1183 (by decide) (by omega) (by omega) (fun c1183 => ?_) (fun c1183 => ?_)
  · refine j_goto (tgt := 1341) C dL_law_1198 (by decide) ?_
    exact j_lle (lv' := [_, _, _, _, _, none, none]) ⟨Or.inr rfl, ⟨Or.inr rfl, ⟨Or.inr rfl, ⟨Or.inr rfl, ⟨Or.inr rfl, ⟨Or.inl rfl, ⟨Or.inl rfl, trivial⟩⟩⟩⟩⟩⟩⟩ (j_widen (ce' := ce + 9) (sl' := sl + 333) (by first | omega | (dsimp only [rmN]; omega)) (by first | omega | (dsimp only [rmN]; omega)) (kk _ _ _ _ _ _ _ _ _ _ _ _ _ _ _ _ _ _ _ _ _ _ _ _ _ _ _ _ _ _ _ _ _ _ _ _ hC3 hC4))
  · refine j_aload_n C dL_law_1186 rfl ?_
    refine j_iconst C dL_law_1187 ?_
    refine j_lald C 0 0 rfl rfl dL_law_1188 (by decide) (by omega) (by omega) ?_
    refine j_iload C dL_law_1189 rfl ?_
    refine j_i2lN C dL_law_1191 ?_
    refine j_lcmpE C dL_law_1192 (by exact hC2 c1183) ?_
    refine j_if_eq (tgt := 1198) C dL_law_1193 (by decide) (by omega) (by omega) (fun c1193 => ?_) (fun c1193 => ?_)
    · refine j_goto (tgt := 1341) C dL_law_1198 (by decide) ?_
      exact j_lle (lv' := [_, _, _, _, _, none, none]) ⟨Or.inr rfl, ⟨Or.inr rfl, ⟨Or.inr rfl, ⟨Or.inr rfl, ⟨Or.inr rfl, ⟨Or.inl rfl, ⟨Or.inl rfl, trivial⟩⟩⟩⟩⟩⟩⟩ (j_widen (ce' := ce + 9) (sl' := sl + 333) (by first | omega | (dsimp only [rmN]; omega)) (by first | omega | (dsimp only [rmN]; omega)) (kk _ _ _ _ _ _ _ _ _ _ _ _ _ _ _ _ _ _ _ _ _ _ _ _ _ _ _ _ _ _ _ _ _ _ _ _ hC3 hC4))
    · exact absurd rfl c1193
set_option maxHeartbeats 1600000 in
set_option maxRecDepth 100000 in
theorem c_law_append {K : KT} (C : Cx K cL_law 7 RL (some .boolean) room_1) (XK : WX K) (hfl : (kl K).stackTraces = false) {b0 Ls : Nat} {xs : Nat → Int32} (hX : va_X b0 Ls xs (ks K) (ks K).heap) (hbl : b0 < (ks K).heap.size) (hbA : ¬ kA K b0) (hL : Ls ≤ 2560) {q v w9 : Nat} {b tb r m o d a : Nat → Nat} (c : Int) (L : List ((Nat → Nat) × (Int → Int))) (z : Int) (X : Int → Int) (F : Int → Int) (Nx : Int → Int) (f0 : Int → Int) (th : Int → Int) (S : Int → Int) (T : Int → Int) (Xs : Int → Int) (Es : Int → Int) (Ds : Int → Int) (Bs : Int → Int) (O : Int → Int) (t : Int → Int) (Y : Int → Int) (G : Int → Int) (M : Int → Int) (TR : Int → Int) (V : Int → Int) (tt : Int → Int) (D1 : Int → Int) (B1 : Int → Int) (R : Int → Int) (N1 : Int → Int) (BR : Int → Int) (X1 : Int → Int) (L1 : Int → Int) (F1 : Int → Int) (Y1 : Int → Int) (w1 : Int → Int) (w2 : Int → Int) (w3 : Int → Int) (w4 : Int → Int) (w5 : Int → Int) {ce sl : Nat} (hce : ce ≤ 600000) (hsl : sl ≤ 7000000) {i : Int} (hi : 0 ≤ i ∧ i + 5 ≤ (Ls : Int)) (hrel : LRel S c L O t G M V) (htt : t = tt) (kk : KK K b0 q v w9 b tb r m o d a i ce sl) : J K ce sl [[(w9, lJ ((kC K) 3) 1 Y)], prO q v b tb r m o c, svB (kC K) v L, rgO r (d 0) z, dbO d, [(d 1, aJ ((kC K) 0) 49 X)], [(d 2, aJ ((kC K) 0) 49 F)], [(d 3, aJ ((kC K) 0) 40 Nx)], [(r 1, aJ ((kC K) 0) 2365 f0)], [(r 2, aJ ((kC K) 0) 49 th)], bk (kC K) b S, bk (kC K) tb T, rmO m, [(m 1, aJ ((kC K) 0) 40 Xs)], [(m 2, aJ ((kC K) 0) 7 Es)], [(m 3, aJ ((kC K) 0) 7 Ds)], [(m 4, aJ ((kC K) 0) 7 Bs)], orO o O, [(o 1, aJ ((kC K) 0) 100 t)], mO a G, [(a 1, aJ ((kC K) 0) 325 M)], [(a 2, aJ ((kC K) 0) 325 TR)], [(a 3, aJ ((kC K) 0) 1300 V)], [(a 4, aJ ((kC K) 0) 100 tt)], [(a 5, aJ ((kC K) 0) 49 D1)], [(a 6, aJ ((kC K) 0) 490 B1)], [(a 7, aJ ((kC K) 0) 8 R)], [(a 8, aJ ((kC K) 0) 9 N1)], [(a 9, aJ ((kC K) 0) 8 BR)], [(a 10, aJ ((kC K) 0) 40 X1)], [(a 11, aJ ((kC K) 0) 7 L1)], [(a 12, aJ ((kC K) 0) 7 F1)], [(a 13, aJ ((kC K) 0) 7 Y1)], [(a 14, aJ ((kC K) 0) 50 w1)], [(a 15, aJ ((kC K) 0) 50 w2)], [(a 16, aJ ((kC K) 0) 50 w3)], [(a 17, aJ ((kC K) 0) 50 w4)], [(a 18, aJ ((kC K) 0) 50 w5)]] [some (.ref b0), some (.ref q), some (.ref (a 0)), some (.ref w9), some (.int (iI i)), none, none] 1201 [] := by
  subst htt
  have hI := hrel.1.1
  have hz := hrel.1.2.1
  have hAg := hrel.1.2.2
  have hc : 0 ≤ c ∧ c ≤ 4 ∧ c ≤ (L.length : Int) ∧ L.length ≤ 4 := hrel.2.1.1
  have hLz := hrel.2.1.2.1
  have hg0 := hrel.2.2.1.1
  have hg1 := hrel.2.2.1.2
  have ht := hrel.2.2.2
  have hO : 0 ≤ O 0 ∧ O 0 ≤ 100 := ht.1
  have hN := hI.2.1
  have hQ := hI.1
  have hcp := cp_Inv (T := T) hI
  have hb1 := gX_bd xs (i + 1)
  have hb2 := gX_bd xs (i + 2)
  have hb3 := gX_bd xs (i + 3)
  have hb4 := gX_bd xs (i + 4)
  refine j_aload_n C dL_law_1201 rfl ?_
  refine j_aload_n C dL_law_1202 rfl ?_
  refine j_iload C dL_law_1203 rfl ?_
  refine j_iconst C dL_law_1205 ?_
  refine j_iadd C dL_law_1206 ?_
  refine j_sld C hX hbl hbA hL dL_law_1207 (by omega) (by omega) ?_
  refine j_aload_n C dL_law_1208 rfl ?_
  refine j_perm (pm_38_0_1_17_18 _ _ _ _ _ _ _ _ _ _ _ _ _ _ _ _ _ _ _ _ _ _ _ _ _ _ _ _ _ _ _ _ _ _ _ _ _ _) ?_
  refine j_callW C XK (As := [.ref _, .int (iI _), .ref _]) (c_L_append _ _ _ _ _ _ _ _ _ _ (d) _ _ _ _ _ _ (by first | assumption | omega) (by first | assumption | omega) (by first | assumption | omega)) 3 nf_L_append.2 wL_L_154 wS_L_append wIn_L wC_L_append rfl rfl (by decide) dL_law_1209 (Nat.le_of_ble_eq_true rfl) ⟨by dsimp only [rmN, room_1]; omega, by dsimp only [rmN, room_1]; omega⟩ (fun x1209 u1209 h1209 => ?_)
  refine j_perm (pr_38_0_1_17_18 _ _ _ _ _ _ _ _ _ _ _ _ _ _ _ _ _ _ _ _ _ _ _ _ _ _ _ _ _ _ _ _ _ _ _ _ _ _) ?_
  refine j_ist_5 C dL_law_1212 rfl ?_
  refine j_aload_n C dL_law_1214 rfl ?_
  refine j_aload_n C dL_law_1215 rfl ?_
  refine j_iload C dL_law_1216 rfl ?_
  refine j_iconst C dL_law_1218 ?_
  refine j_iadd C dL_law_1219 ?_
  refine j_sld C hX hbl hbA hL dL_law_1220 (by omega) (by omega) ?_
  refine j_perm (pm_38_19_23 _ _ _ _ _ _ _ _ _ _ _ _ _ _ _ _ _ _ _ _ _ _ _ _ _ _ _ _ _ _ _ _ _ _ _ _ _ _) ?_
  refine j_callVi C (As := [.int (iI _)]) (c_X6_append _ _ _ _ _ _ _ (by first | assumption | omega) (by first | assumption | omega)) 1 nf_X6_append (jb := 0) rfl rfl wL_L_156 wI_X6_append wSe_X6_X6_append wIn_X6 wC_X6_append rfl rfl (by decide) dL_law_1221 (Nat.le_of_ble_eq_true rfl) ⟨by dsimp only [rmN, room_1]; omega, by dsimp only [rmN, room_1]; omega⟩ (fun x1221 u1221 h1221 => ?_)
  refine j_perm (pr_38_19_23 _ _ _ _ _ _ _ _ _ _ _ _ _ _ _ _ _ _ _ _ _ _ _ _ _ _ _ _ _ _ _ _ _ _ _ _ _ _) ?_
  have hC : u1221.1 2 = x1209 ∧ (x1209 = 0 → u1209.2.2 0 = ndI x1221) ∧ LRel S c L u1209.1 u1209.2.1 u1221.1 M V ∧ u1209.2.1 = u1221.2 := by
    rcases h1209 with ⟨A0, A1, A2, A3, A4⟩ | ⟨A0, A1, A3, A4⟩ | ⟨A0, A1, A3, A4⟩ <;> rcases h1221 with ⟨P0, P1, P2, P3⟩ | ⟨P3, ⟨P0, Br⟩ | ⟨P0, P4, Br⟩⟩ <;> first | (exact ⟨P2.2.2.trans A1.symm, fun _ => A2.trans (congrArg ndI (P1.trans (by rw [hg1])).symm), rel_text hrel ⟨P2.1, by rw [A3, st_s, P2.2.1, hg1]⟩ (by rw [A3, A4, st_s]; exact TX_app ht (by omega) (by omega)), by rw [A4, P3, hg1]⟩) | (exact ⟨Br.2.2.trans A1.symm, fun h => absurd (A1.symm.trans h) (by decide), by rw [A3, A4]; exact rel_keep hrel Br, by rw [A4, P3]⟩) | (exfalso; omega)
  obtain ⟨hC1, hC2, hC3⟩ := hC
  have hC4 : u1209.2.1 = u1221.2 := hC3.2
  have hx : 0 ≤ x1209 ∧ x1209 ≤ 3 := by rcases h1209 with ⟨A0, A1, A2, A3, A4⟩ | ⟨A0, A1, A3, A4⟩ | ⟨A0, A1, A3, A4⟩ <;> omega
  replace hC3 := hC3.1
  refine j_ist_6 C dL_law_1224 rfl ?_
  refine j_aload_n C dL_law_1226 rfl ?_
  refine j_perm (pm_38_19 _ _ _ _ _ _ _ _ _ _ _ _ _ _ _ _ _ _ _ _ _ _ _ _ _ _ _ _ _ _ _ _ _ _ _ _ _ _) ?_
  refine j_callVi C (As := []) (c_X6_thrown _ _ _ _ _ ) 0 nf_X6_thrown (jb := 0) rfl rfl wL_L_83 wI_X6_thrown wSe_X6_X6_thrown wIn_X6 wC_X6_thrown rfl rfl (by decide) dL_law_1227 (Nat.le_of_ble_eq_true rfl) ⟨by dsimp only [rmN, room_1]; omega, by dsimp only [rmN, room_1]; omega⟩ (fun x1227 u1227 h1227 => ?_)
  refine j_perm (pr_38_19 _ _ _ _ _ _ _ _ _ _ _ _ _ _ _ _ _ _ _ _ _ _ _ _ _ _ _ _ _ _ _ _ _ _ _ _ _ _) ?_
  refine j_iload C dL_law_1230 rfl ?_
  refine j_icmpE (tgt := 1237) C dL_law_1232 (by decide) (by exact h1227.trans hC1) ?_
  refine j_iload C dL_law_1237 rfl ?_
  refine j_if_ne (tgt := 1254) C dL_law_1239 (by decide) (by omega) (by omega) (fun c1239 => ?_) (fun c1239 => ?_)
  · refine j_goto (tgt := 1341) C dL_law_1254 (by decide) ?_
    exact j_lle (lv' := [_, _, _, _, _, none, none]) ⟨Or.inr rfl, ⟨Or.inr rfl, ⟨Or.inr rfl, ⟨Or.inr rfl, ⟨Or.inr rfl, ⟨Or.inl rfl, ⟨Or.inl rfl, trivial⟩⟩⟩⟩⟩⟩⟩ (j_widen (ce' := ce + 9) (sl' := sl + 333) (by first | omega | (dsimp only [rmN]; omega)) (by first | omega | (dsimp only [rmN]; omega)) (kk _ _ _ _ _ _ _ _ _ _ _ _ _ _ _ _ _ _ _ _ _ _ _ _ _ _ _ _ _ _ _ _ _ _ _ _ hC3 hC4))
  · refine j_aload_n C dL_law_1242 rfl ?_
    refine j_iconst C dL_law_1243 ?_
    refine j_lald C 0 0 rfl rfl dL_law_1244 (by decide) (by omega) (by omega) ?_
    refine j_iload C dL_law_1245 rfl ?_
    refine j_i2lN C dL_law_1247 ?_
    refine j_lcmpE C dL_law_1248 (by exact hC2 c1239) ?_
    refine j_if_eq (tgt := 1254) C dL_law_1249 (by decide) (by omega) (by omega) (fun c1249 => ?_) (fun c1249 => ?_)
    · refine j_goto (tgt := 1341) C dL_law_1254 (by decide) ?_
      exact j_lle (lv' := [_, _, _, _, _, none, none]) ⟨Or.inr rfl, ⟨Or.inr rfl, ⟨Or.inr rfl, ⟨Or.inr rfl, ⟨Or.inr rfl, ⟨Or.inl rfl, ⟨Or.inl rfl, trivial⟩⟩⟩⟩⟩⟩⟩ (j_widen (ce' := ce + 9) (sl' := sl + 333) (by first | omega | (dsimp only [rmN]; omega)) (by first | omega | (dsimp only [rmN]; omega)) (kk _ _ _ _ _ _ _ _ _ _ _ _ _ _ _ _ _ _ _ _ _ _ _ _ _ _ _ _ _ _ _ _ _ _ _ _ hC3 hC4))
    · exact absurd rfl c1249
set_option maxHeartbeats 1600000 in
set_option maxRecDepth 100000 in
theorem c_law_undo {K : KT} (C : Cx K cL_law 7 RL (some .boolean) room_1) (XK : WX K) (hfl : (kl K).stackTraces = false) {b0 Ls : Nat} {xs : Nat → Int32} (hX : va_X b0 Ls xs (ks K) (ks K).heap) (hbl : b0 < (ks K).heap.size) (hbA : ¬ kA K b0) (hL : Ls ≤ 2560) {q v w9 : Nat} {b tb r m o d a : Nat → Nat} (c : Int) (L : List ((Nat → Nat) × (Int → Int))) (z : Int) (X : Int → Int) (F : Int → Int) (Nx : Int → Int) (f0 : Int → Int) (th : Int → Int) (S : Int → Int) (T : Int → Int) (Xs : Int → Int) (Es : Int → Int) (Ds : Int → Int) (Bs : Int → Int) (O : Int → Int) (t : Int → Int) (Y : Int → Int) (G : Int → Int) (M : Int → Int) (TR : Int → Int) (V : Int → Int) (tt : Int → Int) (D1 : Int → Int) (B1 : Int → Int) (R : Int → Int) (N1 : Int → Int) (BR : Int → Int) (X1 : Int → Int) (L1 : Int → Int) (F1 : Int → Int) (Y1 : Int → Int) (w1 : Int → Int) (w2 : Int → Int) (w3 : Int → Int) (w4 : Int → Int) (w5 : Int → Int) {ce sl : Nat} (hce : ce ≤ 600000) (hsl : sl ≤ 7000000) {i : Int} (hi : 0 ≤ i ∧ i + 5 ≤ (Ls : Int)) (hrel : LRel S c L O t G M V) (htt : t = tt) (kk : KK K b0 q v w9 b tb r m o d a i ce sl) : J K ce sl [[(w9, lJ ((kC K) 3) 1 Y)], prO q v b tb r m o c, svB (kC K) v L, rgO r (d 0) z, dbO d, [(d 1, aJ ((kC K) 0) 49 X)], [(d 2, aJ ((kC K) 0) 49 F)], [(d 3, aJ ((kC K) 0) 40 Nx)], [(r 1, aJ ((kC K) 0) 2365 f0)], [(r 2, aJ ((kC K) 0) 49 th)], bk (kC K) b S, bk (kC K) tb T, rmO m, [(m 1, aJ ((kC K) 0) 40 Xs)], [(m 2, aJ ((kC K) 0) 7 Es)], [(m 3, aJ ((kC K) 0) 7 Ds)], [(m 4, aJ ((kC K) 0) 7 Bs)], orO o O, [(o 1, aJ ((kC K) 0) 100 t)], mO a G, [(a 1, aJ ((kC K) 0) 325 M)], [(a 2, aJ ((kC K) 0) 325 TR)], [(a 3, aJ ((kC K) 0) 1300 V)], [(a 4, aJ ((kC K) 0) 100 tt)], [(a 5, aJ ((kC K) 0) 49 D1)], [(a 6, aJ ((kC K) 0) 490 B1)], [(a 7, aJ ((kC K) 0) 8 R)], [(a 8, aJ ((kC K) 0) 9 N1)], [(a 9, aJ ((kC K) 0) 8 BR)], [(a 10, aJ ((kC K) 0) 40 X1)], [(a 11, aJ ((kC K) 0) 7 L1)], [(a 12, aJ ((kC K) 0) 7 F1)], [(a 13, aJ ((kC K) 0) 7 Y1)], [(a 14, aJ ((kC K) 0) 50 w1)], [(a 15, aJ ((kC K) 0) 50 w2)], [(a 16, aJ ((kC K) 0) 50 w3)], [(a 17, aJ ((kC K) 0) 50 w4)], [(a 18, aJ ((kC K) 0) 50 w5)]] [some (.ref b0), some (.ref q), some (.ref (a 0)), some (.ref w9), some (.int (iI i)), none, none] 1283 [] := by
  subst htt
  have hI := hrel.1.1
  have hz := hrel.1.2.1
  have hAg := hrel.1.2.2
  have hc : 0 ≤ c ∧ c ≤ 4 ∧ c ≤ (L.length : Int) ∧ L.length ≤ 4 := hrel.2.1.1
  have hLz := hrel.2.1.2.1
  have hg0 := hrel.2.2.1.1
  have hg1 := hrel.2.2.1.2
  have ht := hrel.2.2.2
  have hO : 0 ≤ O 0 ∧ O 0 ≤ 100 := ht.1
  have hN := hI.2.1
  have hQ := hI.1
  have hcp := cp_Inv (T := T) hI
  have hb1 := gX_bd xs (i + 1)
  have hb2 := gX_bd xs (i + 2)
  have hb3 := gX_bd xs (i + 3)
  have hb4 := gX_bd xs (i + 4)
  refine j_aload_n C dL_law_1283 rfl ?_
  refine j_aload_n C dL_law_1284 rfl ?_
  refine j_perm (pm_38_0_1_2_10 _ _ _ _ _ _ _ _ _ _ _ _ _ _ _ _ _ _ _ _ _ _ _ _ _ _ _ _ _ _ _ _ _ _ _ _ _ _) ?_
  refine j_callW C XK (As := [.ref _, .ref _]) (c_L_undo _ _ _ _ _ _ _ _ _ _ (d) _ _ _ _ _ (by first | assumption | omega) (by first | assumption | omega) (by first | assumption | omega)) 2 nf_L_undo.2 wL_L_165 wS_L_undo wIn_L wC_L_undo rfl rfl (by decide) dL_law_1285 (Nat.le_of_ble_eq_true rfl) ⟨by dsimp only [rmN, room_1]; omega, by dsimp only [rmN, room_1]; omega⟩ (fun x1285 u1285 h1285 => ?_)
  refine j_perm (pr_38_0_1_2_10 _ _ _ _ _ _ _ _ _ _ _ _ _ _ _ _ _ _ _ _ _ _ _ _ _ _ _ _ _ _ _ _ _ _ _ _ _ _) ?_
  refine j_ist_5 C dL_law_1288 rfl ?_
  refine j_aload_n C dL_law_1290 rfl ?_
  refine j_perm (pm_38_19_20_22 _ _ _ _ _ _ _ _ _ _ _ _ _ _ _ _ _ _ _ _ _ _ _ _ _ _ _ _ _ _ _ _ _ _ _ _ _ _) ?_
  refine j_callVi C (As := []) (c_X6_undo _ _ _ _ _ _ _ (by first | assumption | omega)) 0 nf_X6_undo (jb := 0) rfl rfl wL_L_167 wI_X6_undo wSe_X6_X6_undo wIn_X6 wC_X6_undo rfl rfl (by decide) dL_law_1291 (Nat.le_of_ble_eq_true rfl) ⟨by dsimp only [rmN, room_1]; omega, by dsimp only [rmN, room_1]; omega⟩ (fun x1291 u1291 h1291 => ?_)
  refine j_perm (pr_38_19_20_22 _ _ _ _ _ _ _ _ _ _ _ _ _ _ _ _ _ _ _ _ _ _ _ _ _ _ _ _ _ _ _ _ _ _ _ _ _ _) ?_
  have hC : u1291.1 2 = x1285 ∧ (x1285 = 0 → u1285.2.2 0 = ndI x1291) ∧ LRel u1285.2.1 u1285.1 L O t u1291.1 u1291.2 V := by
    rcases h1285 with ⟨A0, A1, A2, A3, p, A4, A5⟩ | ⟨A0, A1, A3, A5⟩ <;> rcases h1291 with ⟨P0, P1, P2, P3⟩ | ⟨M1, P0, Br⟩ <;> first | (exact ⟨P2.2.2.trans A1.symm, fun _ => A2.trans (congrArg ndI (P1.trans (by rw [hg0])).symm), by rw [A3, A5]; exact rel_undo hrel A0 A4 ⟨P2.1, P2.2.1⟩ P3⟩) | (exact ⟨Br.2.2.trans A1.symm, fun h => absurd (A1.symm.trans h) (by decide), by rw [A3, A5, M1]; exact rel_keep hrel Br⟩) | (exfalso; omega)
  obtain ⟨hC1, hC2, hC3⟩ := hC
  have hC4 : t = t := rfl
  have hx : 0 ≤ x1285 ∧ x1285 ≤ 3 := by rcases h1285 with ⟨A0, A1, A2, A3, p, A4, A5⟩ | ⟨A0, A1, A3, A5⟩ <;> omega
  refine j_ist_6 C dL_law_1294 rfl ?_
  refine j_aload_n C dL_law_1296 rfl ?_
  refine j_perm (pm_38_19 _ _ _ _ _ _ _ _ _ _ _ _ _ _ _ _ _ _ _ _ _ _ _ _ _ _ _ _ _ _ _ _ _ _ _ _ _ _) ?_
  refine j_callVi C (As := []) (c_X6_thrown _ _ _ _ _ ) 0 nf_X6_thrown (jb := 0) rfl rfl wL_L_83 wI_X6_thrown wSe_X6_X6_thrown wIn_X6 wC_X6_thrown rfl rfl (by decide) dL_law_1297 (Nat.le_of_ble_eq_true rfl) ⟨by dsimp only [rmN, room_1]; omega, by dsimp only [rmN, room_1]; omega⟩ (fun x1297 u1297 h1297 => ?_)
  refine j_perm (pr_38_19 _ _ _ _ _ _ _ _ _ _ _ _ _ _ _ _ _ _ _ _ _ _ _ _ _ _ _ _ _ _ _ _ _ _ _ _ _ _) ?_
  refine j_iload C dL_law_1300 rfl ?_
  refine j_icmpE (tgt := 1307) C dL_law_1302 (by decide) (by exact h1297.trans hC1) ?_
  refine j_iload C dL_law_1307 rfl ?_
  refine j_if_ne (tgt := 1324) C dL_law_1309 (by decide) (by omega) (by omega) (fun c1309 => ?_) (fun c1309 => ?_)
  · refine j_goto (tgt := 1341) C dL_law_1324 (by decide) ?_
    exact j_lle (lv' := [_, _, _, _, _, none, none]) ⟨Or.inr rfl, ⟨Or.inr rfl, ⟨Or.inr rfl, ⟨Or.inr rfl, ⟨Or.inr rfl, ⟨Or.inl rfl, ⟨Or.inl rfl, trivial⟩⟩⟩⟩⟩⟩⟩ (j_widen (ce' := ce + 9) (sl' := sl + 333) (by first | omega | (dsimp only [rmN]; omega)) (by first | omega | (dsimp only [rmN]; omega)) (kk _ _ _ _ _ _ _ _ _ _ _ _ _ _ _ _ _ _ _ _ _ _ _ _ _ _ _ _ _ _ _ _ _ _ _ _ hC3 hC4))
  · refine j_aload_n C dL_law_1312 rfl ?_
    refine j_iconst C dL_law_1313 ?_
    refine j_lald C 0 0 rfl rfl dL_law_1314 (by decide) (by omega) (by omega) ?_
    refine j_iload C dL_law_1315 rfl ?_
    refine j_i2lN C dL_law_1317 ?_
    refine j_lcmpE C dL_law_1318 (by exact hC2 c1309) ?_
    refine j_if_eq (tgt := 1324) C dL_law_1319 (by decide) (by omega) (by omega) (fun c1319 => ?_) (fun c1319 => ?_)
    · refine j_goto (tgt := 1341) C dL_law_1324 (by decide) ?_
      exact j_lle (lv' := [_, _, _, _, _, none, none]) ⟨Or.inr rfl, ⟨Or.inr rfl, ⟨Or.inr rfl, ⟨Or.inr rfl, ⟨Or.inr rfl, ⟨Or.inl rfl, ⟨Or.inl rfl, trivial⟩⟩⟩⟩⟩⟩⟩ (j_widen (ce' := ce + 9) (sl' := sl + 333) (by first | omega | (dsimp only [rmN]; omega)) (by first | omega | (dsimp only [rmN]; omega)) (kk _ _ _ _ _ _ _ _ _ _ _ _ _ _ _ _ _ _ _ _ _ _ _ _ _ _ _ _ _ _ _ _ _ _ _ _ hC3 hC4))
    · exact absurd rfl c1319
set_option maxHeartbeats 1600000 in
set_option maxRecDepth 100000 in
theorem c_law_dischargeAll {K : KT} (C : Cx K cL_law 7 RL (some .boolean) room_1) (XK : WX K) (hfl : (kl K).stackTraces = false) {b0 Ls : Nat} {xs : Nat → Int32} (hX : va_X b0 Ls xs (ks K) (ks K).heap) (hbl : b0 < (ks K).heap.size) (hbA : ¬ kA K b0) (hL : Ls ≤ 2560) {q v w9 : Nat} {b tb r m o d a : Nat → Nat} (c : Int) (L : List ((Nat → Nat) × (Int → Int))) (z : Int) (X : Int → Int) (F : Int → Int) (Nx : Int → Int) (f0 : Int → Int) (th : Int → Int) (S : Int → Int) (T : Int → Int) (Xs : Int → Int) (Es : Int → Int) (Ds : Int → Int) (Bs : Int → Int) (O : Int → Int) (t : Int → Int) (Y : Int → Int) (G : Int → Int) (M : Int → Int) (TR : Int → Int) (V : Int → Int) (tt : Int → Int) (D1 : Int → Int) (B1 : Int → Int) (R : Int → Int) (N1 : Int → Int) (BR : Int → Int) (X1 : Int → Int) (L1 : Int → Int) (F1 : Int → Int) (Y1 : Int → Int) (w1 : Int → Int) (w2 : Int → Int) (w3 : Int → Int) (w4 : Int → Int) (w5 : Int → Int) {ce sl : Nat} (hce : ce ≤ 600000) (hsl : sl ≤ 7000000) {i : Int} (hi : 0 ≤ i ∧ i + 5 ≤ (Ls : Int)) (hrel : LRel S c L O t G M V) (htt : t = tt) (kk : KK K b0 q v w9 b tb r m o d a i ce sl) : J K ce sl [[(w9, lJ ((kC K) 3) 1 Y)], prO q v b tb r m o c, svB (kC K) v L, rgO r (d 0) z, dbO d, [(d 1, aJ ((kC K) 0) 49 X)], [(d 2, aJ ((kC K) 0) 49 F)], [(d 3, aJ ((kC K) 0) 40 Nx)], [(r 1, aJ ((kC K) 0) 2365 f0)], [(r 2, aJ ((kC K) 0) 49 th)], bk (kC K) b S, bk (kC K) tb T, rmO m, [(m 1, aJ ((kC K) 0) 40 Xs)], [(m 2, aJ ((kC K) 0) 7 Es)], [(m 3, aJ ((kC K) 0) 7 Ds)], [(m 4, aJ ((kC K) 0) 7 Bs)], orO o O, [(o 1, aJ ((kC K) 0) 100 t)], mO a G, [(a 1, aJ ((kC K) 0) 325 M)], [(a 2, aJ ((kC K) 0) 325 TR)], [(a 3, aJ ((kC K) 0) 1300 V)], [(a 4, aJ ((kC K) 0) 100 tt)], [(a 5, aJ ((kC K) 0) 49 D1)], [(a 6, aJ ((kC K) 0) 490 B1)], [(a 7, aJ ((kC K) 0) 8 R)], [(a 8, aJ ((kC K) 0) 9 N1)], [(a 9, aJ ((kC K) 0) 8 BR)], [(a 10, aJ ((kC K) 0) 40 X1)], [(a 11, aJ ((kC K) 0) 7 L1)], [(a 12, aJ ((kC K) 0) 7 F1)], [(a 13, aJ ((kC K) 0) 7 Y1)], [(a 14, aJ ((kC K) 0) 50 w1)], [(a 15, aJ ((kC K) 0) 50 w2)], [(a 16, aJ ((kC K) 0) 50 w3)], [(a 17, aJ ((kC K) 0) 50 w4)], [(a 18, aJ ((kC K) 0) 50 w5)]] [some (.ref b0), some (.ref q), some (.ref (a 0)), some (.ref w9), some (.int (iI i)), none, none] 596 [] := by
  subst htt
  have hI := hrel.1.1
  have hz := hrel.1.2.1
  have hAg := hrel.1.2.2
  have hc : 0 ≤ c ∧ c ≤ 4 ∧ c ≤ (L.length : Int) ∧ L.length ≤ 4 := hrel.2.1.1
  have hLz := hrel.2.1.2.1
  have hg0 := hrel.2.2.1.1
  have hg1 := hrel.2.2.1.2
  have ht := hrel.2.2.2
  have hO : 0 ≤ O 0 ∧ O 0 ≤ 100 := ht.1
  have hN := hI.2.1
  have hQ := hI.1
  have hcp := cp_Inv (T := T) hI
  have hb1 := gX_bd xs (i + 1)
  have hb2 := gX_bd xs (i + 2)
  have hb3 := gX_bd xs (i + 3)
  have hb4 := gX_bd xs (i + 4)
  refine j_aload_n C dL_law_596 rfl ?_
  refine j_perm (pm_38_1_2_3_4_5_6_7_8_10 _ _ _ _ _ _ _ _ _ _ _ _ _ _ _ _ _ _ _ _ _ _ _ _ _ _ _ _ _ _ _ _ _ _ _ _ _ _) ?_
  refine j_callVi C (As := []) (c_X5_dischargeAll _ _ _ _ _ _ _ _ _ _ (d) _ _ _ _ _ _ _ _ (by first | assumption | omega) (by first | assumption | omega) (by first | assumption | omega)) 0 nf_X5_dischargeAll (jb := 0) rfl rfl wL_L_107 wI_X5_dischargeAll wSe_X5_X5_dischargeAll wIn_X5 wC_X5_dischargeAll rfl rfl (by decide) dL_law_597 (Nat.le_of_ble_eq_true rfl) ⟨by dsimp only [rmN, room_1]; omega, by dsimp only [rmN, room_1]; omega⟩ (fun x597 u597 h597 => ?_)
  refine j_perm (pr_38_1_2_3_4_5_6_7_8_10 _ _ _ _ _ _ _ _ _ _ _ _ _ _ _ _ _ _ _ _ _ _ _ _ _ _ _ _ _ _ _ _ _ _ _ _ _ _) ?_
  refine j_aload_n C dL_law_600 rfl ?_
  refine j_perm (pm_38_19_20_22_26_27_24_25_28 _ _ _ _ _ _ _ _ _ _ _ _ _ _ _ _ _ _ _ _ _ _ _ _ _ _ _ _ _ _ _ _ _ _ _ _ _ _) ?_
  refine j_callVi C (As := []) (c_X6_dischargeAll _ _ _ _ _ _ _ _ _ _ _ _ (S) (by first | assumption | omega) (by first | assumption | omega) (by first | assumption | omega)) 0 nf_X6_dischargeAll (jb := 0) rfl rfl wL_L_110 wI_X6_dischargeAll wSe_X6_X6_dischargeAll wIn_X6 wC_X6_dischargeAll rfl rfl (by decide) dL_law_601 (Nat.le_of_ble_eq_true rfl) ⟨by dsimp only [rmN, room_1]; omega, by dsimp only [rmN, room_1]; omega⟩ (fun x601 u601 h601 => ?_)
  refine j_perm (pr_38_19_20_22_26_27_24_25_28 _ _ _ _ _ _ _ _ _ _ _ _ _ _ _ _ _ _ _ _ _ _ _ _ _ _ _ _ _ _ _ _ _ _ _ _ _ _) ?_
  have hC3 := rel_save hrel ⟨rfl, h597.2⟩ (disA_Inv 49 S 0 hI) (disA_Inz 49 S 0 hI hz) h601.2.1 h601.2.2
  have hC4 : t = t := rfl
  refine j_icmpE (tgt := 1341) C dL_law_604 (by decide) (by exact h597.1.trans h601.1.symm) ?_
  exact j_lle (lv' := [_, _, _, _, _, none, none]) ⟨Or.inr rfl, ⟨Or.inr rfl, ⟨Or.inr rfl, ⟨Or.inr rfl, ⟨Or.inr rfl, ⟨Or.inl rfl, ⟨Or.inl rfl, trivial⟩⟩⟩⟩⟩⟩⟩ (j_widen (ce' := ce + 9) (sl' := sl + 333) (by first | omega | (dsimp only [rmN]; omega)) (by first | omega | (dsimp only [rmN]; omega)) (kk _ _ _ _ _ _ _ _ _ _ _ _ _ _ _ _ _ _ _ _ _ _ _ _ _ _ _ _ _ _ _ _ _ _ _ _ hC3 hC4))
set_option maxHeartbeats 1600000 in
set_option maxRecDepth 100000 in
theorem c_law_bestRing {K : KT} (C : Cx K cL_law 7 RL (some .boolean) room_1) (XK : WX K) (hfl : (kl K).stackTraces = false) {b0 Ls : Nat} {xs : Nat → Int32} (hX : va_X b0 Ls xs (ks K) (ks K).heap) (hbl : b0 < (ks K).heap.size) (hbA : ¬ kA K b0) (hL : Ls ≤ 2560) {q v w9 : Nat} {b tb r m o d a : Nat → Nat} (c : Int) (L : List ((Nat → Nat) × (Int → Int))) (z : Int) (X : Int → Int) (F : Int → Int) (Nx : Int → Int) (f0 : Int → Int) (th : Int → Int) (S : Int → Int) (T : Int → Int) (Xs : Int → Int) (Es : Int → Int) (Ds : Int → Int) (Bs : Int → Int) (O : Int → Int) (t : Int → Int) (Y : Int → Int) (G : Int → Int) (M : Int → Int) (TR : Int → Int) (V : Int → Int) (tt : Int → Int) (D1 : Int → Int) (B1 : Int → Int) (R : Int → Int) (N1 : Int → Int) (BR : Int → Int) (X1 : Int → Int) (L1 : Int → Int) (F1 : Int → Int) (Y1 : Int → Int) (w1 : Int → Int) (w2 : Int → Int) (w3 : Int → Int) (w4 : Int → Int) (w5 : Int → Int) {ce sl : Nat} (hce : ce ≤ 600000) (hsl : sl ≤ 7000000) {i : Int} (hi : 0 ≤ i ∧ i + 5 ≤ (Ls : Int)) (hrel : LRel S c L O t G M V) (htt : t = tt) (kk : KK K b0 q v w9 b tb r m o d a i ce sl) : J K ce sl [[(w9, lJ ((kC K) 3) 1 Y)], prO q v b tb r m o c, svB (kC K) v L, rgO r (d 0) z, dbO d, [(d 1, aJ ((kC K) 0) 49 X)], [(d 2, aJ ((kC K) 0) 49 F)], [(d 3, aJ ((kC K) 0) 40 Nx)], [(r 1, aJ ((kC K) 0) 2365 f0)], [(r 2, aJ ((kC K) 0) 49 th)], bk (kC K) b S, bk (kC K) tb T, rmO m, [(m 1, aJ ((kC K) 0) 40 Xs)], [(m 2, aJ ((kC K) 0) 7 Es)], [(m 3, aJ ((kC K) 0) 7 Ds)], [(m 4, aJ ((kC K) 0) 7 Bs)], orO o O, [(o 1, aJ ((kC K) 0) 100 t)], mO a G, [(a 1, aJ ((kC K) 0) 325 M)], [(a 2, aJ ((kC K) 0) 325 TR)], [(a 3, aJ ((kC K) 0) 1300 V)], [(a 4, aJ ((kC K) 0) 100 tt)], [(a 5, aJ ((kC K) 0) 49 D1)], [(a 6, aJ ((kC K) 0) 490 B1)], [(a 7, aJ ((kC K) 0) 8 R)], [(a 8, aJ ((kC K) 0) 9 N1)], [(a 9, aJ ((kC K) 0) 8 BR)], [(a 10, aJ ((kC K) 0) 40 X1)], [(a 11, aJ ((kC K) 0) 7 L1)], [(a 12, aJ ((kC K) 0) 7 F1)], [(a 13, aJ ((kC K) 0) 7 Y1)], [(a 14, aJ ((kC K) 0) 50 w1)], [(a 15, aJ ((kC K) 0) 50 w2)], [(a 16, aJ ((kC K) 0) 50 w3)], [(a 17, aJ ((kC K) 0) 50 w4)], [(a 18, aJ ((kC K) 0) 50 w5)]] [some (.ref b0), some (.ref q), some (.ref (a 0)), some (.ref w9), some (.int (iI i)), none, none] 1037 [] := by
  subst htt
  have hI := hrel.1.1
  have hz := hrel.1.2.1
  have hAg := hrel.1.2.2
  have hc : 0 ≤ c ∧ c ≤ 4 ∧ c ≤ (L.length : Int) ∧ L.length ≤ 4 := hrel.2.1.1
  have hLz := hrel.2.1.2.1
  have hg0 := hrel.2.2.1.1
  have hg1 := hrel.2.2.1.2
  have ht := hrel.2.2.2
  have hO : 0 ≤ O 0 ∧ O 0 ≤ 100 := ht.1
  have hN := hI.2.1
  have hQ := hI.1
  have hcp := cp_Inv (T := T) hI
  have hb1 := gX_bd xs (i + 1)
  have hb2 := gX_bd xs (i + 2)
  have hb3 := gX_bd xs (i + 3)
  have hb4 := gX_bd xs (i + 4)
  refine j_aload_n C dL_law_1037 rfl ?_
  refine j_perm (pm_38_1_3_4_5_6_7_8_10 _ _ _ _ _ _ _ _ _ _ _ _ _ _ _ _ _ _ _ _ _ _ _ _ _ _ _ _ _ _ _ _ _ _ _ _ _ _) ?_
  refine j_callVi C (As := []) (c_X5_bestRing _ _ _ _ _ _ _ _ _ _ (d) _ _ _ _ _ _ _ (by first | assumption | omega)) 0 nf_X5_bestRing (jb := 0) rfl rfl wL_L_132 wI_X5_bestRing wSe_X5_X5_bestRing wIn_X5 wC_X5_bestRing rfl rfl (by decide) dL_law_1038 (Nat.le_of_ble_eq_true rfl) ⟨by dsimp only [rmN, room_1]; omega, by dsimp only [rmN, room_1]; omega⟩ (fun x1038 u1038 h1038 => ?_)
  refine j_perm (pr_38_1_3_4_5_6_7_8_10 _ _ _ _ _ _ _ _ _ _ _ _ _ _ _ _ _ _ _ _ _ _ _ _ _ _ _ _ _ _ _ _ _ _ _ _ _ _) ?_
  refine j_aload_n C dL_law_1041 rfl ?_
  refine j_perm (pm_38_19_20_26_27_24_25_28 _ _ _ _ _ _ _ _ _ _ _ _ _ _ _ _ _ _ _ _ _ _ _ _ _ _ _ _ _ _ _ _ _ _ _ _ _ _) ?_
  refine j_callVi C (As := []) (c_X6_bestRing _ _ _ _ _ _ _ _ _ _ _ (S) (by first | assumption | omega) (by first | assumption | omega)) 0 nf_X6_bestRing (jb := 0) rfl rfl wL_L_135 wI_X6_bestRing wSe_X6_X6_bestRing wIn_X6 wC_X6_bestRing rfl rfl (by decide) dL_law_1042 (Nat.le_of_ble_eq_true rfl) ⟨by dsimp only [rmN, room_1]; omega, by dsimp only [rmN, room_1]; omega⟩ (fun x1042 u1042 h1042 => ?_)
  refine j_perm (pr_38_19_20_26_27_24_25_28 _ _ _ _ _ _ _ _ _ _ _ _ _ _ _ _ _ _ _ _ _ _ _ _ _ _ _ _ _ _ _ _ _ _ _ _ _ _) ?_
  have hC3 := rel_keep hrel h1042.2
  have hC4 : t = t := rfl
  refine j_icmpE (tgt := 1341) C dL_law_1045 (by decide) (by exact h1038.trans h1042.1.symm) ?_
  exact j_lle (lv' := [_, _, _, _, _, none, none]) ⟨Or.inr rfl, ⟨Or.inr rfl, ⟨Or.inr rfl, ⟨Or.inr rfl, ⟨Or.inr rfl, ⟨Or.inl rfl, ⟨Or.inl rfl, trivial⟩⟩⟩⟩⟩⟩⟩ (j_widen (ce' := ce + 9) (sl' := sl + 333) (by first | omega | (dsimp only [rmN]; omega)) (by first | omega | (dsimp only [rmN]; omega)) (kk _ _ _ _ _ _ _ _ _ _ _ _ _ _ _ _ _ _ _ _ _ _ _ _ _ _ _ _ _ _ _ _ _ _ _ _ hC3 hC4))
set_option maxHeartbeats 1600000 in
set_option maxRecDepth 100000 in
theorem c_law_costByRings {K : KT} (C : Cx K cL_law 7 RL (some .boolean) room_1) (XK : WX K) (hfl : (kl K).stackTraces = false) {b0 Ls : Nat} {xs : Nat → Int32} (hX : va_X b0 Ls xs (ks K) (ks K).heap) (hbl : b0 < (ks K).heap.size) (hbA : ¬ kA K b0) (hL : Ls ≤ 2560) {q v w9 : Nat} {b tb r m o d a : Nat → Nat} (c : Int) (L : List ((Nat → Nat) × (Int → Int))) (z : Int) (X : Int → Int) (F : Int → Int) (Nx : Int → Int) (f0 : Int → Int) (th : Int → Int) (S : Int → Int) (T : Int → Int) (Xs : Int → Int) (Es : Int → Int) (Ds : Int → Int) (Bs : Int → Int) (O : Int → Int) (t : Int → Int) (Y : Int → Int) (G : Int → Int) (M : Int → Int) (TR : Int → Int) (V : Int → Int) (tt : Int → Int) (D1 : Int → Int) (B1 : Int → Int) (R : Int → Int) (N1 : Int → Int) (BR : Int → Int) (X1 : Int → Int) (L1 : Int → Int) (F1 : Int → Int) (Y1 : Int → Int) (w1 : Int → Int) (w2 : Int → Int) (w3 : Int → Int) (w4 : Int → Int) (w5 : Int → Int) {ce sl : Nat} (hce : ce ≤ 600000) (hsl : sl ≤ 7000000) {i : Int} (hi : 0 ≤ i ∧ i + 5 ≤ (Ls : Int)) (hrel : LRel S c L O t G M V) (htt : t = tt) (kk : KK K b0 q v w9 b tb r m o d a i ce sl) : J K ce sl [[(w9, lJ ((kC K) 3) 1 Y)], prO q v b tb r m o c, svB (kC K) v L, rgO r (d 0) z, dbO d, [(d 1, aJ ((kC K) 0) 49 X)], [(d 2, aJ ((kC K) 0) 49 F)], [(d 3, aJ ((kC K) 0) 40 Nx)], [(r 1, aJ ((kC K) 0) 2365 f0)], [(r 2, aJ ((kC K) 0) 49 th)], bk (kC K) b S, bk (kC K) tb T, rmO m, [(m 1, aJ ((kC K) 0) 40 Xs)], [(m 2, aJ ((kC K) 0) 7 Es)], [(m 3, aJ ((kC K) 0) 7 Ds)], [(m 4, aJ ((kC K) 0) 7 Bs)], orO o O, [(o 1, aJ ((kC K) 0) 100 t)], mO a G, [(a 1, aJ ((kC K) 0) 325 M)], [(a 2, aJ ((kC K) 0) 325 TR)], [(a 3, aJ ((kC K) 0) 1300 V)], [(a 4, aJ ((kC K) 0) 100 tt)], [(a 5, aJ ((kC K) 0) 49 D1)], [(a 6, aJ ((kC K) 0) 490 B1)], [(a 7, aJ ((kC K) 0) 8 R)], [(a 8, aJ ((kC K) 0) 9 N1)], [(a 9, aJ ((kC K) 0) 8 BR)], [(a 10, aJ ((kC K) 0) 40 X1)], [(a 11, aJ ((kC K) 0) 7 L1)], [(a 12, aJ ((kC K) 0) 7 F1)], [(a 13, aJ ((kC K) 0) 7 Y1)], [(a 14, aJ ((kC K) 0) 50 w1)], [(a 15, aJ ((kC K) 0) 50 w2)], [(a 16, aJ ((kC K) 0) 50 w3)], [(a 17, aJ ((kC K) 0) 50 w4)], [(a 18, aJ ((kC K) 0) 50 w5)]] [some (.ref b0), some (.ref q), some (.ref (a 0)), some (.ref w9), some (.int (iI i)), none, none] 1050 [] := by
  subst htt
  have hI := hrel.1.1
  have hz := hrel.1.2.1
  have hAg := hrel.1.2.2
  have hc : 0 ≤ c ∧ c ≤ 4 ∧ c ≤ (L.length : Int) ∧ L.length ≤ 4 := hrel.2.1.1
  have hLz := hrel.2.1.2.1
  have hg0 := hrel.2.2.1.1
  have hg1 := hrel.2.2.1.2
  have ht := hrel.2.2.2
  have hO : 0 ≤ O 0 ∧ O 0 ≤ 100 := ht.1
  have hN := hI.2.1
  have hQ := hI.1
  have hcp := cp_Inv (T := T) hI
  have hb1 := gX_bd xs (i + 1)
  have hb2 := gX_bd xs (i + 2)
  have hb3 := gX_bd xs (i + 3)
  have hb4 := gX_bd xs (i + 4)
  refine j_aload_n C dL_law_1050 rfl ?_
  refine j_perm (pm_38_1_3_4_5_6_7_8_10_11 _ _ _ _ _ _ _ _ _ _ _ _ _ _ _ _ _ _ _ _ _ _ _ _ _ _ _ _ _ _ _ _ _ _ _ _ _ _) ?_
  refine j_callVi C (As := []) (c_X5_costByRings _ _ _ _ _ _ _ _ _ _ (d) _ _ _ _ _ _ _ _ (by first | assumption | omega) (by first | assumption | omega) (by exact hcp) (by exact disA_Inv 49 _ 0 hcp)) 0 nf_X5_costByRings (jb := 0) rfl rfl wL_L_136 wI_X5_costByRings wSe_X5_X5_costByRings wIn_X5 wC_X5_costByRings rfl rfl (by decide) dL_law_1051 (Nat.le_of_ble_eq_true rfl) ⟨by dsimp only [rmN, room_1]; omega, by dsimp only [rmN, room_1]; omega⟩ (fun x1051 u1051 h1051 => ?_)
  refine j_perm (pr_38_1_3_4_5_6_7_8_10_11 _ _ _ _ _ _ _ _ _ _ _ _ _ _ _ _ _ _ _ _ _ _ _ _ _ _ _ _ _ _ _ _ _ _ _ _ _ _) ?_
  refine j_aload_n C dL_law_1054 rfl ?_
  refine j_perm (pm_38_19_20_21_26_27_24_25_28 _ _ _ _ _ _ _ _ _ _ _ _ _ _ _ _ _ _ _ _ _ _ _ _ _ _ _ _ _ _ _ _ _ _ _ _ _ _) ?_
  refine j_callVi C (As := []) (c_X6_costByRings _ _ _ _ _ _ _ _ _ _ _ _ (cpS T S) (by exact hcp) (by exact cpT_Ag hI hAg)) 0 nf_X6_costByRings (jb := 0) rfl rfl wL_L_139 wI_X6_costByRings wSe_X6_X6_costByRings wIn_X6 wC_X6_costByRings rfl rfl (by decide) dL_law_1055 (Nat.le_of_ble_eq_true rfl) ⟨by dsimp only [rmN, room_1]; omega, by dsimp only [rmN, room_1]; omega⟩ (fun x1055 u1055 h1055 => ?_)
  refine j_perm (pr_38_19_20_21_26_27_24_25_28 _ _ _ _ _ _ _ _ _ _ _ _ _ _ _ _ _ _ _ _ _ _ _ _ _ _ _ _ _ _ _ _ _ _ _ _ _ _) ?_
  have hC3 := rel_keep hrel h1055.2
  have hC4 : t = t := rfl
  refine j_icmpE (tgt := 1341) C dL_law_1058 (by decide) (by exact h1051.trans h1055.1.symm) ?_
  exact j_lle (lv' := [_, _, _, _, _, none, none]) ⟨Or.inr rfl, ⟨Or.inr rfl, ⟨Or.inr rfl, ⟨Or.inr rfl, ⟨Or.inr rfl, ⟨Or.inl rfl, ⟨Or.inl rfl, trivial⟩⟩⟩⟩⟩⟩⟩ (j_widen (ce' := ce + 9) (sl' := sl + 333) (by first | omega | (dsimp only [rmN]; omega)) (by first | omega | (dsimp only [rmN]; omega)) (kk _ _ _ _ _ _ _ _ _ _ _ _ _ _ _ _ _ _ _ _ _ _ _ _ _ _ _ _ _ _ _ _ _ _ _ _ hC3 hC4))
set_option maxHeartbeats 1600000 in
set_option maxRecDepth 100000 in
theorem c_law_leastCost {K : KT} (C : Cx K cL_law 7 RL (some .boolean) room_1) (XK : WX K) (hfl : (kl K).stackTraces = false) {b0 Ls : Nat} {xs : Nat → Int32} (hX : va_X b0 Ls xs (ks K) (ks K).heap) (hbl : b0 < (ks K).heap.size) (hbA : ¬ kA K b0) (hL : Ls ≤ 2560) {q v w9 : Nat} {b tb r m o d a : Nat → Nat} (c : Int) (L : List ((Nat → Nat) × (Int → Int))) (z : Int) (X : Int → Int) (F : Int → Int) (Nx : Int → Int) (f0 : Int → Int) (th : Int → Int) (S : Int → Int) (T : Int → Int) (Xs : Int → Int) (Es : Int → Int) (Ds : Int → Int) (Bs : Int → Int) (O : Int → Int) (t : Int → Int) (Y : Int → Int) (G : Int → Int) (M : Int → Int) (TR : Int → Int) (V : Int → Int) (tt : Int → Int) (D1 : Int → Int) (B1 : Int → Int) (R : Int → Int) (N1 : Int → Int) (BR : Int → Int) (X1 : Int → Int) (L1 : Int → Int) (F1 : Int → Int) (Y1 : Int → Int) (w1 : Int → Int) (w2 : Int → Int) (w3 : Int → Int) (w4 : Int → Int) (w5 : Int → Int) {ce sl : Nat} (hce : ce ≤ 600000) (hsl : sl ≤ 7000000) {i : Int} (hi : 0 ≤ i ∧ i + 5 ≤ (Ls : Int)) (hrel : LRel S c L O t G M V) (htt : t = tt) (kk : KK K b0 q v w9 b tb r m o d a i ce sl) : J K ce sl [[(w9, lJ ((kC K) 3) 1 Y)], prO q v b tb r m o c, svB (kC K) v L, rgO r (d 0) z, dbO d, [(d 1, aJ ((kC K) 0) 49 X)], [(d 2, aJ ((kC K) 0) 49 F)], [(d 3, aJ ((kC K) 0) 40 Nx)], [(r 1, aJ ((kC K) 0) 2365 f0)], [(r 2, aJ ((kC K) 0) 49 th)], bk (kC K) b S, bk (kC K) tb T, rmO m, [(m 1, aJ ((kC K) 0) 40 Xs)], [(m 2, aJ ((kC K) 0) 7 Es)], [(m 3, aJ ((kC K) 0) 7 Ds)], [(m 4, aJ ((kC K) 0) 7 Bs)], orO o O, [(o 1, aJ ((kC K) 0) 100 t)], mO a G, [(a 1, aJ ((kC K) 0) 325 M)], [(a 2, aJ ((kC K) 0) 325 TR)], [(a 3, aJ ((kC K) 0) 1300 V)], [(a 4, aJ ((kC K) 0) 100 tt)], [(a 5, aJ ((kC K) 0) 49 D1)], [(a 6, aJ ((kC K) 0) 490 B1)], [(a 7, aJ ((kC K) 0) 8 R)], [(a 8, aJ ((kC K) 0) 9 N1)], [(a 9, aJ ((kC K) 0) 8 BR)], [(a 10, aJ ((kC K) 0) 40 X1)], [(a 11, aJ ((kC K) 0) 7 L1)], [(a 12, aJ ((kC K) 0) 7 F1)], [(a 13, aJ ((kC K) 0) 7 Y1)], [(a 14, aJ ((kC K) 0) 50 w1)], [(a 15, aJ ((kC K) 0) 50 w2)], [(a 16, aJ ((kC K) 0) 50 w3)], [(a 17, aJ ((kC K) 0) 50 w4)], [(a 18, aJ ((kC K) 0) 50 w5)]] [some (.ref b0), some (.ref q), some (.ref (a 0)), some (.ref w9), some (.int (iI i)), none, none] 1063 [] := by
  subst htt
  have hI := hrel.1.1
  have hz := hrel.1.2.1
  have hAg := hrel.1.2.2
  have hc : 0 ≤ c ∧ c ≤ 4 ∧ c ≤ (L.length : Int) ∧ L.length ≤ 4 := hrel.2.1.1
  have hLz := hrel.2.1.2.1
  have hg0 := hrel.2.2.1.1
  have hg1 := hrel.2.2.1.2
  have ht := hrel.2.2.2
  have hO : 0 ≤ O 0 ∧ O 0 ≤ 100 := ht.1
  have hN := hI.2.1
  have hQ := hI.1
  have hcp := cp_Inv (T := T) hI
  have hb1 := gX_bd xs (i + 1)
  have hb2 := gX_bd xs (i + 2)
  have hb3 := gX_bd xs (i + 3)
  have hb4 := gX_bd xs (i + 4)
  refine j_aload_n C dL_law_1063 rfl ?_
  refine j_perm (pm_38_1_12_13_14_15_16_10 _ _ _ _ _ _ _ _ _ _ _ _ _ _ _ _ _ _ _ _ _ _ _ _ _ _ _ _ _ _ _ _ _ _ _ _ _ _) ?_
  refine j_callVi C (As := []) (c_X5_leastCost _ _ _ _ _ _ _ _ _ _ (d) _ _ _ _ _ _ (by first | assumption | omega)) 0 nf_X5_leastCost (jb := 0) rfl rfl wL_L_140 wI_X5_leastCost wSe_X5_X5_leastCost wIn_X5 wC_X5_leastCost rfl rfl (by decide) dL_law_1064 (Nat.le_of_ble_eq_true rfl) ⟨by dsimp only [rmN, room_1]; omega, by dsimp only [rmN, room_1]; omega⟩ (fun x1064 u1064 h1064 => ?_)
  refine j_perm (pr_38_1_12_13_14_15_16_10 _ _ _ _ _ _ _ _ _ _ _ _ _ _ _ _ _ _ _ _ _ _ _ _ _ _ _ _ _ _ _ _ _ _ _ _ _ _) ?_
  refine j_aload_n C dL_law_1067 rfl ?_
  refine j_perm (pm_38_19_20_29_30_31_32 _ _ _ _ _ _ _ _ _ _ _ _ _ _ _ _ _ _ _ _ _ _ _ _ _ _ _ _ _ _ _ _ _ _ _ _ _ _) ?_
  refine j_callVi C (As := []) (c_X6_leastCost _ _ _ _ _ _ _ _ _ _ (S) (by first | assumption | omega) (by first | assumption | omega)) 0 nf_X6_leastCost (jb := 0) rfl rfl wL_L_143 wI_X6_leastCost wSe_X6_X6_leastCost wIn_X6 wC_X6_leastCost rfl rfl (by decide) dL_law_1068 (Nat.le_of_ble_eq_true rfl) ⟨by dsimp only [rmN, room_1]; omega, by dsimp only [rmN, room_1]; omega⟩ (fun x1068 u1068 h1068 => ?_)
  refine j_perm (pr_38_19_20_29_30_31_32 _ _ _ _ _ _ _ _ _ _ _ _ _ _ _ _ _ _ _ _ _ _ _ _ _ _ _ _ _ _ _ _ _ _ _ _ _ _) ?_
  have hC3 := rel_keep hrel h1068.2
  have hC4 : t = t := rfl
  refine j_icmpE (tgt := 1341) C dL_law_1071 (by decide) (by exact h1064.trans h1068.1.symm) ?_
  exact j_lle (lv' := [_, _, _, _, _, none, none]) ⟨Or.inr rfl, ⟨Or.inr rfl, ⟨Or.inr rfl, ⟨Or.inr rfl, ⟨Or.inr rfl, ⟨Or.inl rfl, ⟨Or.inl rfl, trivial⟩⟩⟩⟩⟩⟩⟩ (j_widen (ce' := ce + 9) (sl' := sl + 333) (by first | omega | (dsimp only [rmN]; omega)) (by first | omega | (dsimp only [rmN]; omega)) (kk _ _ _ _ _ _ _ _ _ _ _ _ _ _ _ _ _ _ _ _ _ _ _ _ _ _ _ _ _ _ _ _ _ _ _ _ hC3 hC4))
set_option maxHeartbeats 1600000 in
set_option maxRecDepth 100000 in
theorem c_law_keyPromise {K : KT} (C : Cx K cL_law 7 RL (some .boolean) room_1) (XK : WX K) (hfl : (kl K).stackTraces = false) {b0 Ls : Nat} {xs : Nat → Int32} (hX : va_X b0 Ls xs (ks K) (ks K).heap) (hbl : b0 < (ks K).heap.size) (hbA : ¬ kA K b0) (hL : Ls ≤ 2560) {q v w9 : Nat} {b tb r m o d a : Nat → Nat} (c : Int) (L : List ((Nat → Nat) × (Int → Int))) (z : Int) (X : Int → Int) (F : Int → Int) (Nx : Int → Int) (f0 : Int → Int) (th : Int → Int) (S : Int → Int) (T : Int → Int) (Xs : Int → Int) (Es : Int → Int) (Ds : Int → Int) (Bs : Int → Int) (O : Int → Int) (t : Int → Int) (Y : Int → Int) (G : Int → Int) (M : Int → Int) (TR : Int → Int) (V : Int → Int) (tt : Int → Int) (D1 : Int → Int) (B1 : Int → Int) (R : Int → Int) (N1 : Int → Int) (BR : Int → Int) (X1 : Int → Int) (L1 : Int → Int) (F1 : Int → Int) (Y1 : Int → Int) (w1 : Int → Int) (w2 : Int → Int) (w3 : Int → Int) (w4 : Int → Int) (w5 : Int → Int) {ce sl : Nat} (hce : ce ≤ 600000) (hsl : sl ≤ 7000000) {i : Int} (hi : 0 ≤ i ∧ i + 5 ≤ (Ls : Int)) (hrel : LRel S c L O t G M V) (htt : t = tt) (kk : KK K b0 q v w9 b tb r m o d a i ce sl) : J K ce sl [[(w9, lJ ((kC K) 3) 1 Y)], prO q v b tb r m o c, svB (kC K) v L, rgO r (d 0) z, dbO d, [(d 1, aJ ((kC K) 0) 49 X)], [(d 2, aJ ((kC K) 0) 49 F)], [(d 3, aJ ((kC K) 0) 40 Nx)], [(r 1, aJ ((kC K) 0) 2365 f0)], [(r 2, aJ ((kC K) 0) 49 th)], bk (kC K) b S, bk (kC K) tb T, rmO m, [(m 1, aJ ((kC K) 0) 40 Xs)], [(m 2, aJ ((kC K) 0) 7 Es)], [(m 3, aJ ((kC K) 0) 7 Ds)], [(m 4, aJ ((kC K) 0) 7 Bs)], orO o O, [(o 1, aJ ((kC K) 0) 100 t)], mO a G, [(a 1, aJ ((kC K) 0) 325 M)], [(a 2, aJ ((kC K) 0) 325 TR)], [(a 3, aJ ((kC K) 0) 1300 V)], [(a 4, aJ ((kC K) 0) 100 tt)], [(a 5, aJ ((kC K) 0) 49 D1)], [(a 6, aJ ((kC K) 0) 490 B1)], [(a 7, aJ ((kC K) 0) 8 R)], [(a 8, aJ ((kC K) 0) 9 N1)], [(a 9, aJ ((kC K) 0) 8 BR)], [(a 10, aJ ((kC K) 0) 40 X1)], [(a 11, aJ ((kC K) 0) 7 L1)], [(a 12, aJ ((kC K) 0) 7 F1)], [(a 13, aJ ((kC K) 0) 7 Y1)], [(a 14, aJ ((kC K) 0) 50 w1)], [(a 15, aJ ((kC K) 0) 50 w2)], [(a 16, aJ ((kC K) 0) 50 w3)], [(a 17, aJ ((kC K) 0) 50 w4)], [(a 18, aJ ((kC K) 0) 50 w5)]] [some (.ref b0), some (.ref q), some (.ref (a 0)), some (.ref w9), some (.int (iI i)), none, none] 1132 [] := by
  subst htt
  have hI := hrel.1.1
  have hz := hrel.1.2.1
  have hAg := hrel.1.2.2
  have hc : 0 ≤ c ∧ c ≤ 4 ∧ c ≤ (L.length : Int) ∧ L.length ≤ 4 := hrel.2.1.1
  have hLz := hrel.2.1.2.1
  have hg0 := hrel.2.2.1.1
  have hg1 := hrel.2.2.1.2
  have ht := hrel.2.2.2
  have hO : 0 ≤ O 0 ∧ O 0 ≤ 100 := ht.1
  have hN := hI.2.1
  have hQ := hI.1
  have hcp := cp_Inv (T := T) hI
  have hb1 := gX_bd xs (i + 1)
  have hb2 := gX_bd xs (i + 2)
  have hb3 := gX_bd xs (i + 3)
  have hb4 := gX_bd xs (i + 4)
  refine j_aload_n C dL_law_1132 rfl ?_
  refine j_perm (pm_38_1_3_4_5_6_7_8_9_10 _ _ _ _ _ _ _ _ _ _ _ _ _ _ _ _ _ _ _ _ _ _ _ _ _ _ _ _ _ _ _ _ _ _ _ _ _ _) ?_
  refine j_callVi C (As := []) (c_X5_keyPromise _ _ _ _ _ _ _ _ _ _ (d) _ _ _ _ _ _ _ _ (by first | assumption | omega)) 0 nf_X5_keyPromise (jb := 0) rfl rfl wL_L_147 wI_X5_keyPromise wSe_X5_X5_keyPromise wIn_X5 wC_X5_keyPromise rfl rfl (by decide) dL_law_1133 (Nat.le_of_ble_eq_true rfl) ⟨by dsimp only [rmN, room_1]; omega, by dsimp only [rmN, room_1]; omega⟩ (fun x1133 u1133 h1133 => ?_)
  refine j_perm (pr_38_1_3_4_5_6_7_8_9_10 _ _ _ _ _ _ _ _ _ _ _ _ _ _ _ _ _ _ _ _ _ _ _ _ _ _ _ _ _ _ _ _ _ _ _ _ _ _) ?_
  refine j_aload_n C dL_law_1136 rfl ?_
  refine j_perm (pm_38_19_20_26_27_24_25 _ _ _ _ _ _ _ _ _ _ _ _ _ _ _ _ _ _ _ _ _ _ _ _ _ _ _ _ _ _ _ _ _ _ _ _ _ _) ?_
  refine j_callVi C (As := []) (c_X6_keyPromise _ _ _ _ _ _ _ _ _ _ (S) (by first | assumption | omega) (by first | assumption | omega)) 0 nf_X6_keyPromise (jb := 0) rfl rfl wL_L_150 wI_X6_keyPromise wSe_X6_X6_keyPromise wIn_X6 wC_X6_keyPromise rfl rfl (by decide) dL_law_1137 (Nat.le_of_ble_eq_true rfl) ⟨by dsimp only [rmN, room_1]; omega, by dsimp only [rmN, room_1]; omega⟩ (fun x1137 u1137 h1137 => ?_)
  refine j_perm (pr_38_19_20_26_27_24_25 _ _ _ _ _ _ _ _ _ _ _ _ _ _ _ _ _ _ _ _ _ _ _ _ _ _ _ _ _ _ _ _ _ _ _ _ _ _) ?_
  have hC3 := rel_keep hrel h1137.2
  have hC4 : t = t := rfl
  refine j_icmpE (tgt := 1341) C dL_law_1140 (by decide) (by exact h1133.trans h1137.1.symm) ?_
  exact j_lle (lv' := [_, _, _, _, _, none, none]) ⟨Or.inr rfl, ⟨Or.inr rfl, ⟨Or.inr rfl, ⟨Or.inr rfl, ⟨Or.inr rfl, ⟨Or.inl rfl, ⟨Or.inl rfl, trivial⟩⟩⟩⟩⟩⟩⟩ (j_widen (ce' := ce + 9) (sl' := sl + 333) (by first | omega | (dsimp only [rmN]; omega)) (by first | omega | (dsimp only [rmN]; omega)) (kk _ _ _ _ _ _ _ _ _ _ _ _ _ _ _ _ _ _ _ _ _ _ _ _ _ _ _ _ _ _ _ _ _ _ _ _ hC3 hC4))
set_option maxHeartbeats 1600000 in
set_option maxRecDepth 100000 in
theorem c_law_clearText {K : KT} (C : Cx K cL_law 7 RL (some .boolean) room_1) (XK : WX K) (hfl : (kl K).stackTraces = false) {b0 Ls : Nat} {xs : Nat → Int32} (hX : va_X b0 Ls xs (ks K) (ks K).heap) (hbl : b0 < (ks K).heap.size) (hbA : ¬ kA K b0) (hL : Ls ≤ 2560) {q v w9 : Nat} {b tb r m o d a : Nat → Nat} (c : Int) (L : List ((Nat → Nat) × (Int → Int))) (z : Int) (X : Int → Int) (F : Int → Int) (Nx : Int → Int) (f0 : Int → Int) (th : Int → Int) (S : Int → Int) (T : Int → Int) (Xs : Int → Int) (Es : Int → Int) (Ds : Int → Int) (Bs : Int → Int) (O : Int → Int) (t : Int → Int) (Y : Int → Int) (G : Int → Int) (M : Int → Int) (TR : Int → Int) (V : Int → Int) (tt : Int → Int) (D1 : Int → Int) (B1 : Int → Int) (R : Int → Int) (N1 : Int → Int) (BR : Int → Int) (X1 : Int → Int) (L1 : Int → Int) (F1 : Int → Int) (Y1 : Int → Int) (w1 : Int → Int) (w2 : Int → Int) (w3 : Int → Int) (w4 : Int → Int) (w5 : Int → Int) {ce sl : Nat} (hce : ce ≤ 600000) (hsl : sl ≤ 7000000) {i : Int} (hi : 0 ≤ i ∧ i + 5 ≤ (Ls : Int)) (hrel : LRel S c L O t G M V) (htt : t = tt) (kk : KK K b0 q v w9 b tb r m o d a i ce sl) : J K ce sl [[(w9, lJ ((kC K) 3) 1 Y)], prO q v b tb r m o c, svB (kC K) v L, rgO r (d 0) z, dbO d, [(d 1, aJ ((kC K) 0) 49 X)], [(d 2, aJ ((kC K) 0) 49 F)], [(d 3, aJ ((kC K) 0) 40 Nx)], [(r 1, aJ ((kC K) 0) 2365 f0)], [(r 2, aJ ((kC K) 0) 49 th)], bk (kC K) b S, bk (kC K) tb T, rmO m, [(m 1, aJ ((kC K) 0) 40 Xs)], [(m 2, aJ ((kC K) 0) 7 Es)], [(m 3, aJ ((kC K) 0) 7 Ds)], [(m 4, aJ ((kC K) 0) 7 Bs)], orO o O, [(o 1, aJ ((kC K) 0) 100 t)], mO a G, [(a 1, aJ ((kC K) 0) 325 M)], [(a 2, aJ ((kC K) 0) 325 TR)], [(a 3, aJ ((kC K) 0) 1300 V)], [(a 4, aJ ((kC K) 0) 100 tt)], [(a 5, aJ ((kC K) 0) 49 D1)], [(a 6, aJ ((kC K) 0) 490 B1)], [(a 7, aJ ((kC K) 0) 8 R)], [(a 8, aJ ((kC K) 0) 9 N1)], [(a 9, aJ ((kC K) 0) 8 BR)], [(a 10, aJ ((kC K) 0) 40 X1)], [(a 11, aJ ((kC K) 0) 7 L1)], [(a 12, aJ ((kC K) 0) 7 F1)], [(a 13, aJ ((kC K) 0) 7 Y1)], [(a 14, aJ ((kC K) 0) 50 w1)], [(a 15, aJ ((kC K) 0) 50 w2)], [(a 16, aJ ((kC K) 0) 50 w3)], [(a 17, aJ ((kC K) 0) 50 w4)], [(a 18, aJ ((kC K) 0) 50 w5)]] [some (.ref b0), some (.ref q), some (.ref (a 0)), some (.ref w9), some (.int (iI i)), none, none] 1257 [] := by
  subst htt
  have hI := hrel.1.1
  have hz := hrel.1.2.1
  have hAg := hrel.1.2.2
  have hc : 0 ≤ c ∧ c ≤ 4 ∧ c ≤ (L.length : Int) ∧ L.length ≤ 4 := hrel.2.1.1
  have hLz := hrel.2.1.2.1
  have hg0 := hrel.2.2.1.1
  have hg1 := hrel.2.2.1.2
  have ht := hrel.2.2.2
  have hO : 0 ≤ O 0 ∧ O 0 ≤ 100 := ht.1
  have hN := hI.2.1
  have hQ := hI.1
  have hcp := cp_Inv (T := T) hI
  have hb1 := gX_bd xs (i + 1)
  have hb2 := gX_bd xs (i + 2)
  have hb3 := gX_bd xs (i + 3)
  have hb4 := gX_bd xs (i + 4)
  refine j_aload_n C dL_law_1257 rfl ?_
  refine j_perm (pm_38_1_17 _ _ _ _ _ _ _ _ _ _ _ _ _ _ _ _ _ _ _ _ _ _ _ _ _ _ _ _ _ _ _ _ _ _ _ _ _ _) ?_
  refine j_callVi C (As := []) (c_X5_clearText _ _ _ _ _ _ _ _ _ _ (d) _ _ ) 0 nf_X5_clearText (jb := 0) rfl rfl wL_L_157 wI_X5_clearText wSe_X5_X5_clearText wIn_X5 wC_X5_clearText rfl rfl (by decide) dL_law_1258 (Nat.le_of_ble_eq_true rfl) ⟨by dsimp only [rmN, room_1]; omega, by dsimp only [rmN, room_1]; omega⟩ (fun x1258 u1258 h1258 => ?_)
  refine j_perm (pr_38_1_17 _ _ _ _ _ _ _ _ _ _ _ _ _ _ _ _ _ _ _ _ _ _ _ _ _ _ _ _ _ _ _ _ _ _ _ _ _ _) ?_
  refine j_aload_n C dL_law_1261 rfl ?_
  refine j_perm (pm_38_19 _ _ _ _ _ _ _ _ _ _ _ _ _ _ _ _ _ _ _ _ _ _ _ _ _ _ _ _ _ _ _ _ _ _ _ _ _ _) ?_
  refine j_callVi C (As := []) (c_X6_clearText _ _ _ _ _ ) 0 nf_X6_clearText (jb := 0) rfl rfl wL_L_160 wI_X6_clearText wSe_X6_X6_clearText wIn_X6 wC_X6_clearText rfl rfl (by decide) dL_law_1262 (Nat.le_of_ble_eq_true rfl) ⟨by dsimp only [rmN, room_1]; omega, by dsimp only [rmN, room_1]; omega⟩ (fun x1262 u1262 h1262 => ?_)
  refine j_perm (pr_38_19 _ _ _ _ _ _ _ _ _ _ _ _ _ _ _ _ _ _ _ _ _ _ _ _ _ _ _ _ _ _ _ _ _ _ _ _ _ _) ?_
  have hC3 : LRel S c L (st O 0 0) t u1262 M V := rel_text hrel ⟨h1262.2.1, by rw [st_s]; exact h1262.2.2.1⟩ (by rw [st_s]; exact ⟨by omega, fun i a b => by omega⟩)
  have hC4 : t = t := rfl
  refine j_icmpE (tgt := 1341) C dL_law_1265 (by decide) (by exact h1258.trans (hg1.symm.trans h1262.1.symm)) ?_
  exact j_lle (lv' := [_, _, _, _, _, none, none]) ⟨Or.inr rfl, ⟨Or.inr rfl, ⟨Or.inr rfl, ⟨Or.inr rfl, ⟨Or.inr rfl, ⟨Or.inl rfl, ⟨Or.inl rfl, trivial⟩⟩⟩⟩⟩⟩⟩ (j_widen (ce' := ce + 9) (sl' := sl + 333) (by first | omega | (dsimp only [rmN]; omega)) (by first | omega | (dsimp only [rmN]; omega)) (kk _ _ _ _ _ _ _ _ _ _ _ _ _ _ _ _ _ _ _ _ _ _ _ _ _ _ _ _ _ _ _ _ _ _ _ _ hC3 hC4))
set_option maxHeartbeats 3200000 in
set_option maxRecDepth 100000 in
theorem c_law_carryOut {K : KT} (C : Cx K cL_law 7 RL (some .boolean) room_1) (XK : WX K) (hfl : (kl K).stackTraces = false) {b0 Ls : Nat} {xs : Nat → Int32} (hX : va_X b0 Ls xs (ks K) (ks K).heap) (hbl : b0 < (ks K).heap.size) (hbA : ¬ kA K b0) (hL : Ls ≤ 2560) {q v w9 : Nat} {b tb r m o d a : Nat → Nat} (c : Int) (L : List ((Nat → Nat) × (Int → Int))) (z : Int) (X : Int → Int) (F : Int → Int) (Nx : Int → Int) (f0 : Int → Int) (th : Int → Int) (S : Int → Int) (T : Int → Int) (Xs : Int → Int) (Es : Int → Int) (Ds : Int → Int) (Bs : Int → Int) (O : Int → Int) (t : Int → Int) (Y : Int → Int) (G : Int → Int) (M : Int → Int) (TR : Int → Int) (V : Int → Int) (tt : Int → Int) (D1 : Int → Int) (B1 : Int → Int) (R : Int → Int) (N1 : Int → Int) (BR : Int → Int) (X1 : Int → Int) (L1 : Int → Int) (F1 : Int → Int) (Y1 : Int → Int) (w1 : Int → Int) (w2 : Int → Int) (w3 : Int → Int) (w4 : Int → Int) (w5 : Int → Int) {ce sl : Nat} (hce : ce ≤ 600000) (hsl : sl ≤ 7000000) {i : Int} (hi : 0 ≤ i ∧ i + 5 ≤ (Ls : Int)) (hrel : LRel S c L O t G M V) (htt : t = tt) (kk : KK K b0 q v w9 b tb r m o d a i ce sl) : J K ce sl [[(w9, lJ ((kC K) 3) 1 Y)], prO q v b tb r m o c, svB (kC K) v L, rgO r (d 0) z, dbO d, [(d 1, aJ ((kC K) 0) 49 X)], [(d 2, aJ ((kC K) 0) 49 F)], [(d 3, aJ ((kC K) 0) 40 Nx)], [(r 1, aJ ((kC K) 0) 2365 f0)], [(r 2, aJ ((kC K) 0) 49 th)], bk (kC K) b S, bk (kC K) tb T, rmO m, [(m 1, aJ ((kC K) 0) 40 Xs)], [(m 2, aJ ((kC K) 0) 7 Es)], [(m 3, aJ ((kC K) 0) 7 Ds)], [(m 4, aJ ((kC K) 0) 7 Bs)], orO o O, [(o 1, aJ ((kC K) 0) 100 t)], mO a G, [(a 1, aJ ((kC K) 0) 325 M)], [(a 2, aJ ((kC K) 0) 325 TR)], [(a 3, aJ ((kC K) 0) 1300 V)], [(a 4, aJ ((kC K) 0) 100 tt)], [(a 5, aJ ((kC K) 0) 49 D1)], [(a 6, aJ ((kC K) 0) 490 B1)], [(a 7, aJ ((kC K) 0) 8 R)], [(a 8, aJ ((kC K) 0) 9 N1)], [(a 9, aJ ((kC K) 0) 8 BR)], [(a 10, aJ ((kC K) 0) 40 X1)], [(a 11, aJ ((kC K) 0) 7 L1)], [(a 12, aJ ((kC K) 0) 7 F1)], [(a 13, aJ ((kC K) 0) 7 Y1)], [(a 14, aJ ((kC K) 0) 50 w1)], [(a 15, aJ ((kC K) 0) 50 w2)], [(a 16, aJ ((kC K) 0) 50 w3)], [(a 17, aJ ((kC K) 0) 50 w4)], [(a 18, aJ ((kC K) 0) 50 w5)]] [some (.ref b0), some (.ref q), some (.ref (a 0)), some (.ref w9), some (.int (iI i)), none, none] 1270 [] := by
  subst htt
  have hI := hrel.1.1
  have hz := hrel.1.2.1
  have hAg := hrel.1.2.2
  have hc : 0 ≤ c ∧ c ≤ 4 ∧ c ≤ (L.length : Int) ∧ L.length ≤ 4 := hrel.2.1.1
  have hLz := hrel.2.1.2.1
  have hg0 := hrel.2.2.1.1
  have hg1 := hrel.2.2.1.2
  have ht := hrel.2.2.2
  have hO : 0 ≤ O 0 ∧ O 0 ≤ 100 := ht.1
  have hN := hI.2.1
  have hQ := hI.1
  have hcp := cp_Inv (T := T) hI
  have hb1 := gX_bd xs (i + 1)
  have hb2 := gX_bd xs (i + 2)
  have hb3 := gX_bd xs (i + 3)
  have hb4 := gX_bd xs (i + 4)
  refine j_aload_n C dL_law_1270 rfl ?_
  refine j_perm (pm_38_1_2_3_4_5_6_7_8_10_17_18 _ _ _ _ _ _ _ _ _ _ _ _ _ _ _ _ _ _ _ _ _ _ _ _ _ _ _ _ _ _ _ _ _ _ _ _ _ _) ?_
  refine j_callVi C (As := []) (c_X5_carryOut _ _ _ _ _ _ _ _ _ _ (d) _ _ _ _ _ _ _ _ _ _ (by first | assumption | omega) (by first | assumption | omega) (by first | assumption | omega) (by first | assumption | omega)) 0 nf_X5_carryOut (jb := 0) rfl rfl wL_L_161 wI_X5_carryOut wSe_X5_X5_carryOut wIn_X5 wC_X5_carryOut rfl rfl (by decide) dL_law_1271 (Nat.le_of_ble_eq_true rfl) ⟨by dsimp only [rmN, room_1]; omega, by dsimp only [rmN, room_1]; omega⟩ (fun x1271 u1271 h1271 => ?_)
  refine j_perm (pr_38_1_2_3_4_5_6_7_8_10_17_18 _ _ _ _ _ _ _ _ _ _ _ _ _ _ _ _ _ _ _ _ _ _ _ _ _ _ _ _ _ _ _ _ _ _ _ _ _ _) ?_
  refine j_aload_n C dL_law_1274 rfl ?_
  refine j_perm (pm_38_19_20_22_23_26_27_24_25_28_33_34_35_36_37 _ _ _ _ _ _ _ _ _ _ _ _ _ _ _ _ _ _ _ _ _ _ _ _ _ _ _ _ _ _ _ _ _ _ _ _ _ _) ?_
  refine j_callVi C (As := []) (c_X6_carryOut _ _ _ _ _ _ _ _ _ _ _ _ _ _ _ _ _ _ (S) (by first | assumption | omega) (by first | assumption | omega) (by first | assumption | omega) (by rw [hg1]; exact ht)) 0 nf_X6_carryOut (jb := 0) rfl rfl wL_L_164 wI_X6_carryOut wSe_X6_X6_carryOut wIn_X6 wC_X6_carryOut rfl rfl (by decide) dL_law_1275 (Nat.le_of_ble_eq_true rfl) ⟨by dsimp only [rmN, room_1]; omega, by dsimp only [rmN, room_1]; omega⟩ (fun x1275 u1275 h1275 => ?_)
  refine j_perm (pr_38_19_20_22_23_26_27_24_25_28_33_34_35_36_37 _ _ _ _ _ _ _ _ _ _ _ _ _ _ _ _ _ _ _ _ _ _ _ _ _ _ _ _ _ _ _ _ _ _ _ _ _ _) ?_
  rw [hg1] at h1275
  have hcI := cRes_II (t := t) (n := O 0) hI hz
  have hC3 : LRel (cRes t (O 0) S).2 u1271.2.2.1 u1271.2.1 u1271.2.2.2 t u1275.1 u1275.2.1 u1275.2.2.1 := by
    rcases h1271.2.2 with ⟨A0, A1, A2⟩ | ⟨A0, A1, A2⟩ <;> rcases h1275.2.2 with ⟨P0, ⟨M1, V1⟩, Br⟩ | ⟨P0, P1⟩
    · have e : (cRes t (O 0) S).2 = S := by unfold cRes; rw [if_pos A0]
      rw [A1, A2, e, M1, V1]
      exact rel_text (rel_keep hrel Br) ⟨rfl, by rw [h1271.2.1, ← hg1]; exact Br.2.1⟩ (by rw [h1271.2.1]; exact ht)
    · exact absurd P0 A0
    · exact absurd A0 P0
    · refine rel_text (rel_save hrel ⟨A2, A1⟩ hcI.1 hcI.2 h1275.2.1 P1) ⟨rfl, ?_⟩ (by rw [h1271.2.1]; exact ht)
      rw [h1271.2.1, ← hg1]; exact P1.2.2.1
  have hC4 : t = t := rfl
  refine j_icmpE (tgt := 1341) C dL_law_1278 (by decide) (by exact h1271.1.trans h1275.1.symm) ?_
  exact j_lle (lv' := [_, _, _, _, _, none, none]) ⟨Or.inr rfl, ⟨Or.inr rfl, ⟨Or.inr rfl, ⟨Or.inr rfl, ⟨Or.inr rfl, ⟨Or.inl rfl, ⟨Or.inl rfl, trivial⟩⟩⟩⟩⟩⟩⟩ (j_widen (ce' := ce + 9) (sl' := sl + 333) (by first | omega | (dsimp only [rmN]; omega)) (by first | omega | (dsimp only [rmN]; omega)) (kk _ _ _ _ _ _ _ _ _ _ _ _ _ _ _ _ _ _ _ _ _ _ _ _ _ _ _ _ _ _ _ _ _ _ _ _ hC3 hC4))
set_option maxHeartbeats 1600000 in
set_option maxRecDepth 100000 in
theorem c_law_digest {K : KT} (C : Cx K cL_law 7 RL (some .boolean) room_1) (XK : WX K) (hfl : (kl K).stackTraces = false) {b0 Ls : Nat} {xs : Nat → Int32} (hX : va_X b0 Ls xs (ks K) (ks K).heap) (hbl : b0 < (ks K).heap.size) (hbA : ¬ kA K b0) (hL : Ls ≤ 2560) {q v w9 : Nat} {b tb r m o d a : Nat → Nat} (c : Int) (L : List ((Nat → Nat) × (Int → Int))) (z : Int) (X : Int → Int) (F : Int → Int) (Nx : Int → Int) (f0 : Int → Int) (th : Int → Int) (S : Int → Int) (T : Int → Int) (Xs : Int → Int) (Es : Int → Int) (Ds : Int → Int) (Bs : Int → Int) (O : Int → Int) (t : Int → Int) (Y : Int → Int) (G : Int → Int) (M : Int → Int) (TR : Int → Int) (V : Int → Int) (tt : Int → Int) (D1 : Int → Int) (B1 : Int → Int) (R : Int → Int) (N1 : Int → Int) (BR : Int → Int) (X1 : Int → Int) (L1 : Int → Int) (F1 : Int → Int) (Y1 : Int → Int) (w1 : Int → Int) (w2 : Int → Int) (w3 : Int → Int) (w4 : Int → Int) (w5 : Int → Int) {ce sl : Nat} (hce : ce ≤ 600000) (hsl : sl ≤ 7000000) {i : Int} (hi : 0 ≤ i ∧ i + 5 ≤ (Ls : Int)) (hrel : LRel S c L O t G M V) (htt : t = tt) (kk : KK K b0 q v w9 b tb r m o d a i ce sl) : J K ce sl [[(w9, lJ ((kC K) 3) 1 Y)], prO q v b tb r m o c, svB (kC K) v L, rgO r (d 0) z, dbO d, [(d 1, aJ ((kC K) 0) 49 X)], [(d 2, aJ ((kC K) 0) 49 F)], [(d 3, aJ ((kC K) 0) 40 Nx)], [(r 1, aJ ((kC K) 0) 2365 f0)], [(r 2, aJ ((kC K) 0) 49 th)], bk (kC K) b S, bk (kC K) tb T, rmO m, [(m 1, aJ ((kC K) 0) 40 Xs)], [(m 2, aJ ((kC K) 0) 7 Es)], [(m 3, aJ ((kC K) 0) 7 Ds)], [(m 4, aJ ((kC K) 0) 7 Bs)], orO o O, [(o 1, aJ ((kC K) 0) 100 t)], mO a G, [(a 1, aJ ((kC K) 0) 325 M)], [(a 2, aJ ((kC K) 0) 325 TR)], [(a 3, aJ ((kC K) 0) 1300 V)], [(a 4, aJ ((kC K) 0) 100 tt)], [(a 5, aJ ((kC K) 0) 49 D1)], [(a 6, aJ ((kC K) 0) 490 B1)], [(a 7, aJ ((kC K) 0) 8 R)], [(a 8, aJ ((kC K) 0) 9 N1)], [(a 9, aJ ((kC K) 0) 8 BR)], [(a 10, aJ ((kC K) 0) 40 X1)], [(a 11, aJ ((kC K) 0) 7 L1)], [(a 12, aJ ((kC K) 0) 7 F1)], [(a 13, aJ ((kC K) 0) 7 Y1)], [(a 14, aJ ((kC K) 0) 50 w1)], [(a 15, aJ ((kC K) 0) 50 w2)], [(a 16, aJ ((kC K) 0) 50 w3)], [(a 17, aJ ((kC K) 0) 50 w4)], [(a 18, aJ ((kC K) 0) 50 w5)]] [some (.ref b0), some (.ref q), some (.ref (a 0)), some (.ref w9), some (.int (iI i)), none, none] 1327 [] := by
  subst htt
  have hI := hrel.1.1
  have hz := hrel.1.2.1
  have hAg := hrel.1.2.2
  have hc : 0 ≤ c ∧ c ≤ 4 ∧ c ≤ (L.length : Int) ∧ L.length ≤ 4 := hrel.2.1.1
  have hLz := hrel.2.1.2.1
  have hg0 := hrel.2.2.1.1
  have hg1 := hrel.2.2.1.2
  have ht := hrel.2.2.2
  have hO : 0 ≤ O 0 ∧ O 0 ≤ 100 := ht.1
  have hN := hI.2.1
  have hQ := hI.1
  have hcp := cp_Inv (T := T) hI
  have hb1 := gX_bd xs (i + 1)
  have hb2 := gX_bd xs (i + 2)
  have hb3 := gX_bd xs (i + 3)
  have hb4 := gX_bd xs (i + 4)
  refine j_aload_n C dL_law_1327 rfl ?_
  refine j_perm (pm_38_1_3_4_5_6_7_8_10_12_13_14_15_16_17 _ _ _ _ _ _ _ _ _ _ _ _ _ _ _ _ _ _ _ _ _ _ _ _ _ _ _ _ _ _ _ _ _ _ _ _ _ _) ?_
  refine j_callVl C (As := []) (c_X5_digest _ _ _ _ _ _ _ _ _ _ (d) _ _ _ _ _ _ _ _ _ _ _ _ (by first | assumption | omega)) 0 nf_X5_digest (jb := 0) rfl rfl wL_L_168 wI_X5_digest wSe_X5_X5_digest wIn_X5 wC_X5_digest rfl rfl (by decide) dL_law_1328 (Nat.le_of_ble_eq_true rfl) ⟨by dsimp only [rmN, room_1]; omega, by dsimp only [rmN, room_1]; omega⟩ (fun x1328 u1328 h1328 => ?_)
  refine j_perm (pr_38_1_3_4_5_6_7_8_10_12_13_14_15_16_17 _ _ _ _ _ _ _ _ _ _ _ _ _ _ _ _ _ _ _ _ _ _ _ _ _ _ _ _ _ _ _ _ _ _ _ _ _ _) ?_
  refine j_aload_n C dL_law_1331 rfl ?_
  refine j_perm (pm_38_19_20_26_27_24_25_28_29_30_31_32 _ _ _ _ _ _ _ _ _ _ _ _ _ _ _ _ _ _ _ _ _ _ _ _ _ _ _ _ _ _ _ _ _ _ _ _ _ _) ?_
  refine j_callVl C (As := []) (c_X6_digest _ _ _ _ _ _ _ _ _ _ _ _ _ _ _ (S) (by first | assumption | omega) (by first | assumption | omega)) 0 nf_X6_digest (jb := 0) rfl rfl wL_L_172 wI_X6_digest wSe_X6_X6_digest wIn_X6 wC_X6_digest rfl rfl (by decide) dL_law_1332 (Nat.le_of_ble_eq_true rfl) ⟨by dsimp only [rmN, room_1]; omega, by dsimp only [rmN, room_1]; omega⟩ (fun x1332 u1332 h1332 => ?_)
  refine j_perm (pr_38_19_20_26_27_24_25_28_29_30_31_32 _ _ _ _ _ _ _ _ _ _ _ _ _ _ _ _ _ _ _ _ _ _ _ _ _ _ _ _ _ _ _ _ _ _ _ _ _ _) ?_
  have hC3 := rel_keep hrel h1332.2
  have hC4 : t = t := rfl
  refine j_lcmpE C dL_law_1335 (by exact h1328.trans (by rw [h1332.1, hg0, hg1])) ?_
  refine j_if_eq (tgt := 1341) C dL_law_1336 (by decide) (by omega) (by omega) (fun c1336 => ?_) (fun c1336 => ?_)
  · exact j_lle (lv' := [_, _, _, _, _, none, none]) ⟨Or.inr rfl, ⟨Or.inr rfl, ⟨Or.inr rfl, ⟨Or.inr rfl, ⟨Or.inr rfl, ⟨Or.inl rfl, ⟨Or.inl rfl, trivial⟩⟩⟩⟩⟩⟩⟩ (j_widen (ce' := ce + 9) (sl' := sl + 333) (by first | omega | (dsimp only [rmN]; omega)) (by first | omega | (dsimp only [rmN]; omega)) (kk _ _ _ _ _ _ _ _ _ _ _ _ _ _ _ _ _ _ _ _ _ _ _ _ _ _ _ _ _ _ _ _ _ _ _ _ hC3 hC4))
  · exact absurd rfl c1336
