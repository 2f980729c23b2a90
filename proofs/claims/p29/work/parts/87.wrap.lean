/-! p29: the law's wrappers -/
theorem pm_18_0 (B0 B1 B2 B3 B4 B5 B6 B7 B8 B9 B10 B11 B12 B13 B14 B15 B16 B17 : va_W) : [B0, B1, B2, B3, B4, B5, B6, B7, B8, B9, B10, B11, B12, B13, B14, B15, B16, B17].Perm ([B0] ++ [B1, B2, B3, B4, B5, B6, B7, B8, B9, B10, B11, B12, B13, B14, B15, B16, B17]) := List.Perm.refl _
theorem pr_18_0 (B0 B1 B2 B3 B4 B5 B6 B7 B8 B9 B10 B11 B12 B13 B14 B15 B16 B17 : va_W) : ([B0] ++ [B1, B2, B3, B4, B5, B6, B7, B8, B9, B10, B11, B12, B13, B14, B15, B16, B17]).Perm [B0, B1, B2, B3, B4, B5, B6, B7, B8, B9, B10, B11, B12, B13, B14, B15, B16, B17] := (pm_18_0 B0 B1 B2 B3 B4 B5 B6 B7 B8 B9 B10 B11 B12 B13 B14 B15 B16 B17).symm
theorem pm_18_0_1_2_3_4_5_6_7_9 (B0 B1 B2 B3 B4 B5 B6 B7 B8 B9 B10 B11 B12 B13 B14 B15 B16 B17 : va_W) : [B0, B1, B2, B3, B4, B5, B6, B7, B8, B9, B10, B11, B12, B13, B14, B15, B16, B17].Perm ([B0, B1, B2, B3, B4, B5, B6, B7, B9] ++ [B8, B10, B11, B12, B13, B14, B15, B16, B17]) := List.Perm.trans (List.Perm.refl _) (List.Perm.trans (List.Perm.cons _ (List.Perm.refl _)) (List.Perm.trans (List.Perm.cons _ (List.Perm.cons _ (List.Perm.refl _))) (List.Perm.trans (List.Perm.cons _ (List.Perm.cons _ (List.Perm.cons _ (List.Perm.refl _)))) (List.Perm.trans (List.Perm.cons _ (List.Perm.cons _ (List.Perm.cons _ (List.Perm.cons _ (List.Perm.refl _))))) (List.Perm.trans (List.Perm.cons _ (List.Perm.cons _ (List.Perm.cons _ (List.Perm.cons _ (List.Perm.cons _ (List.Perm.refl _)))))) (List.Perm.trans (List.Perm.cons _ (List.Perm.cons _ (List.Perm.cons _ (List.Perm.cons _ (List.Perm.cons _ (List.Perm.cons _ (List.Perm.refl _))))))) (List.Perm.trans (List.Perm.cons _ (List.Perm.cons _ (List.Perm.cons _ (List.Perm.cons _ (List.Perm.cons _ (List.Perm.cons _ (List.Perm.cons _ (List.Perm.refl _)))))))) (List.Perm.cons _ (List.Perm.cons _ (List.Perm.cons _ (List.Perm.cons _ (List.Perm.cons _ (List.Perm.cons _ (List.Perm.cons _ (List.Perm.cons _ (List.perm_middle (l₁ := [B8]) (a := B9) (l₂ := [B10, B11, B12, B13, B14, B15, B16, B17])))))))))))))))))
theorem pr_18_0_1_2_3_4_5_6_7_9 (B0 B1 B2 B3 B4 B5 B6 B7 B8 B9 B10 B11 B12 B13 B14 B15 B16 B17 : va_W) : ([B0, B1, B2, B3, B4, B5, B6, B7, B9] ++ [B8, B10, B11, B12, B13, B14, B15, B16, B17]).Perm [B0, B1, B2, B3, B4, B5, B6, B7, B8, B9, B10, B11, B12, B13, B14, B15, B16, B17] := (pm_18_0_1_2_3_4_5_6_7_9 B0 B1 B2 B3 B4 B5 B6 B7 B8 B9 B10 B11 B12 B13 B14 B15 B16 B17).symm
theorem pm_18_0_1_9 (B0 B1 B2 B3 B4 B5 B6 B7 B8 B9 B10 B11 B12 B13 B14 B15 B16 B17 : va_W) : [B0, B1, B2, B3, B4, B5, B6, B7, B8, B9, B10, B11, B12, B13, B14, B15, B16, B17].Perm ([B0, B1, B9] ++ [B2, B3, B4, B5, B6, B7, B8, B10, B11, B12, B13, B14, B15, B16, B17]) := List.Perm.trans (List.Perm.refl _) (List.Perm.trans (List.Perm.cons _ (List.Perm.refl _)) (List.Perm.cons _ (List.Perm.cons _ (List.perm_middle (l₁ := [B2, B3, B4, B5, B6, B7, B8]) (a := B9) (l₂ := [B10, B11, B12, B13, B14, B15, B16, B17])))))
theorem pr_18_0_1_9 (B0 B1 B2 B3 B4 B5 B6 B7 B8 B9 B10 B11 B12 B13 B14 B15 B16 B17 : va_W) : ([B0, B1, B9] ++ [B2, B3, B4, B5, B6, B7, B8, B10, B11, B12, B13, B14, B15, B16, B17]).Perm [B0, B1, B2, B3, B4, B5, B6, B7, B8, B9, B10, B11, B12, B13, B14, B15, B16, B17] := (pm_18_0_1_9 B0 B1 B2 B3 B4 B5 B6 B7 B8 B9 B10 B11 B12 B13 B14 B15 B16 B17).symm
theorem pm_18_0_2_3_4_5_6_7_9 (B0 B1 B2 B3 B4 B5 B6 B7 B8 B9 B10 B11 B12 B13 B14 B15 B16 B17 : va_W) : [B0, B1, B2, B3, B4, B5, B6, B7, B8, B9, B10, B11, B12, B13, B14, B15, B16, B17].Perm ([B0, B2, B3, B4, B5, B6, B7, B9] ++ [B1, B8, B10, B11, B12, B13, B14, B15, B16, B17]) := List.Perm.trans (List.Perm.refl _) (List.Perm.trans (List.Perm.cons _ (List.perm_middle (l₁ := [B1]) (a := B2) (l₂ := [B3, B4, B5, B6, B7, B8, B9, B10, B11, B12, B13, B14, B15, B16, B17]))) (List.Perm.trans (List.Perm.cons _ (List.Perm.cons _ (List.perm_middle (l₁ := [B1]) (a := B3) (l₂ := [B4, B5, B6, B7, B8, B9, B10, B11, B12, B13, B14, B15, B16, B17])))) (List.Perm.trans (List.Perm.cons _ (List.Perm.cons _ (List.Perm.cons _ (List.perm_middle (l₁ := [B1]) (a := B4) (l₂ := [B5, B6, B7, B8, B9, B10, B11, B12, B13, B14, B15, B16, B17]))))) (List.Perm.trans (List.Perm.cons _ (List.Perm.cons _ (List.Perm.cons _ (List.Perm.cons _ (List.perm_middle (l₁ := [B1]) (a := B5) (l₂ := [B6, B7, B8, B9, B10, B11, B12, B13, B14, B15, B16, B17])))))) (List.Perm.trans (List.Perm.cons _ (List.Perm.cons _ (List.Perm.cons _ (List.Perm.cons _ (List.Perm.cons _ (List.perm_middle (l₁ := [B1]) (a := B6) (l₂ := [B7, B8, B9, B10, B11, B12, B13, B14, B15, B16, B17]))))))) (List.Perm.trans (List.Perm.cons _ (List.Perm.cons _ (List.Perm.cons _ (List.Perm.cons _ (List.Perm.cons _ (List.Perm.cons _ (List.perm_middle (l₁ := [B1]) (a := B7) (l₂ := [B8, B9, B10, B11, B12, B13, B14, B15, B16, B17])))))))) (List.Perm.cons _ (List.Perm.cons _ (List.Perm.cons _ (List.Perm.cons _ (List.Perm.cons _ (List.Perm.cons _ (List.Perm.cons _ (List.perm_middle (l₁ := [B1, B8]) (a := B9) (l₂ := [B10, B11, B12, B13, B14, B15, B16, B17])))))))))))))))
theorem pr_18_0_2_3_4_5_6_7_9 (B0 B1 B2 B3 B4 B5 B6 B7 B8 B9 B10 B11 B12 B13 B14 B15 B16 B17 : va_W) : ([B0, B2, B3, B4, B5, B6, B7, B9] ++ [B1, B8, B10, B11, B12, B13, B14, B15, B16, B17]).Perm [B0, B1, B2, B3, B4, B5, B6, B7, B8, B9, B10, B11, B12, B13, B14, B15, B16, B17] := (pm_18_0_2_3_4_5_6_7_9 B0 B1 B2 B3 B4 B5 B6 B7 B8 B9 B10 B11 B12 B13 B14 B15 B16 B17).symm
theorem pm_18_0_9 (B0 B1 B2 B3 B4 B5 B6 B7 B8 B9 B10 B11 B12 B13 B14 B15 B16 B17 : va_W) : [B0, B1, B2, B3, B4, B5, B6, B7, B8, B9, B10, B11, B12, B13, B14, B15, B16, B17].Perm ([B0, B9] ++ [B1, B2, B3, B4, B5, B6, B7, B8, B10, B11, B12, B13, B14, B15, B16, B17]) := List.Perm.trans (List.Perm.refl _) (List.Perm.cons _ (List.perm_middle (l₁ := [B1, B2, B3, B4, B5, B6, B7, B8]) (a := B9) (l₂ := [B10, B11, B12, B13, B14, B15, B16, B17])))
theorem pr_18_0_9 (B0 B1 B2 B3 B4 B5 B6 B7 B8 B9 B10 B11 B12 B13 B14 B15 B16 B17 : va_W) : ([B0, B9] ++ [B1, B2, B3, B4, B5, B6, B7, B8, B10, B11, B12, B13, B14, B15, B16, B17]).Perm [B0, B1, B2, B3, B4, B5, B6, B7, B8, B9, B10, B11, B12, B13, B14, B15, B16, B17] := (pm_18_0_9 B0 B1 B2 B3 B4 B5 B6 B7 B8 B9 B10 B11 B12 B13 B14 B15 B16 B17).symm
set_option maxHeartbeats 1600000 in
set_option maxRecDepth 100000 in
theorem c_L_promiseOf (l : Launch) (D : va_G) (cA : Nat → ClassId) (A : AT) (c : Int) (L : LT) (S : Int → Int) (u : SC) (i w : Int) (hI : Inv S) (hi : (0 ≤ i ∧ i < S 1)) (hw : 0 ≤ w ∧ w ≤ 7) : MW (U := SC) l yL_promiseOf cL_promiseOf 4 (some .int) [(0, 6, 7, 21), (0, 6, 11, 14)] (rmN 28 0 0) D cA [.ref (A.1), .int (iI i), .int (iI w)] [wB cA A c L S u] (fun x _ => x = S (5 + 8 * i + w)) (fun u => [wB cA A c L S u]) := by
  refine m_startW pn_L rfl (List.forall_mem_cons.mpr ⟨rfl, List.forall_mem_cons.mpr ⟨rfl, List.forall_mem_cons.mpr ⟨rfl, fun _ h => absurd h List.not_mem_nil⟩⟩⟩) (Nat.le_of_ble_eq_true rfl) ?_
  intro K C e1 e2 e3 XK hR
  subst e1 e2 e3
  have hN := hI.2.1
  have hQ := hI.1
  refine j_flat wB_open ?_
  show J K 0 0 [prO A.1 A.2.1 A.2.2.1 A.2.2.2.1 A.2.2.2.2.1 A.2.2.2.2.2.1 A.2.2.2.2.2.2.1 c, svB (kC K) A.2.1 L, rgO A.2.2.2.2.1 (A.2.2.2.2.2.2.2 0) u.2.2.2.2.1, dbO A.2.2.2.2.2.2.2, [(A.2.2.2.2.2.2.2 1, aJ ((kC K) 0) 49 u.1)], [(A.2.2.2.2.2.2.2 2, aJ ((kC K) 0) 49 u.2.1)], [(A.2.2.2.2.2.2.2 3, aJ ((kC K) 0) 40 u.2.2.1)], [(A.2.2.2.2.1 1, aJ ((kC K) 0) 2365 u.2.2.2.1)], [(A.2.2.2.2.1 2, aJ ((kC K) 0) 49 (fun _ => 0))], bk (kC K) A.2.2.1 S, bk (kC K) A.2.2.2.1 iniS, rmO A.2.2.2.2.2.1, [(A.2.2.2.2.2.1 1, aJ ((kC K) 0) 40 u.2.2.2.2.2.1)], [(A.2.2.2.2.2.1 2, aJ ((kC K) 0) 7 u.2.2.2.2.2.2.1)], [(A.2.2.2.2.2.1 3, aJ ((kC K) 0) 7 u.2.2.2.2.2.2.2.1)], [(A.2.2.2.2.2.1 4, aJ ((kC K) 0) 7 u.2.2.2.2.2.2.2.2)], orO A.2.2.2.2.2.2.1 (fun _ => 0), [(A.2.2.2.2.2.2.1 1, aJ ((kC K) 0) 100 (fun _ => 0))]] [some (.ref (A.1)), some (.int (iI i)), some (.int (iI w)), none] 0 []
  refine j_aload_n C dL_promiseOf_0 rfl ?_
  refine j_iload_n C dL_promiseOf_1 rfl ?_
  refine j_iload_n C dL_promiseOf_2 rfl ?_
  refine j_perm (pm_18_0_9 _ _ _ _ _ _ _ _ _ _ _ _ _ _ _ _ _ _) ?_
  refine j_callVi C (As := [.int (iI _), .int (iI _)]) (c_X5_promiseOf _ _ _ _ _ _ _ _ _ _ (A.2.2.2.2.2.2.2) _ _ _ _ (by first | assumption | omega) (by first | assumption | omega) (by first | assumption | omega)) 2 nf_X5_promiseOf (jb := 0) rfl rfl wL_L_44 wI_X5_promiseOf wSe_X5_X5_promiseOf wIn_X5 wC_X5_promiseOf rfl rfl (by decide) dL_promiseOf_3 (Nat.le_of_ble_eq_true rfl) ⟨Nat.le_of_ble_eq_true rfl, Nat.le_of_ble_eq_true rfl⟩ (fun x3 u3 h3 => ?_)
  refine j_perm (pr_18_0_9 _ _ _ _ _ _ _ _ _ _ _ _ _ _ _ _ _ _) ?_
  refine j_flat wB_close ?_
  exact hR (u.1, u.2.1, u.2.2.1, u.2.2.2.1, u.2.2.2.2.1, u.2.2.2.2.2) dL_promiseOf_6 (by exact h3) rfl (Nat.le_of_ble_eq_true rfl) (Nat.le_of_ble_eq_true rfl)
set_option maxHeartbeats 1600000 in
set_option maxRecDepth 100000 in
theorem c_L_debt (l : Launch) (D : va_G) (cA : Nat → ClassId) (A : AT) (c : Int) (L : LT) (S : Int → Int) (u : SC) (f t : Int) (hI : Inv S) (ha : 0 ≤ f ∧ f < S 0) (he : 0 ≤ t ∧ t < S 0) : MW (U := SC) l yL_debt cL_debt 4 (some .int) [(0, 6, 7, 21)] (rmN 28 0 0) D cA [.ref (A.1), .int (iI f), .int (iI t)] [wB cA A c L S u] (fun x _ => x = debS S f t) (fun u => [wB cA A c L S u]) := by
  refine m_startW pn_L rfl (List.forall_mem_cons.mpr ⟨rfl, List.forall_mem_cons.mpr ⟨rfl, List.forall_mem_cons.mpr ⟨rfl, fun _ h => absurd h List.not_mem_nil⟩⟩⟩) (Nat.le_of_ble_eq_true rfl) ?_
  intro K C e1 e2 e3 XK hR
  subst e1 e2 e3
  have hN := hI.2.1
  have hQ := hI.1
  refine j_flat wB_open ?_
  show J K 0 0 [prO A.1 A.2.1 A.2.2.1 A.2.2.2.1 A.2.2.2.2.1 A.2.2.2.2.2.1 A.2.2.2.2.2.2.1 c, svB (kC K) A.2.1 L, rgO A.2.2.2.2.1 (A.2.2.2.2.2.2.2 0) u.2.2.2.2.1, dbO A.2.2.2.2.2.2.2, [(A.2.2.2.2.2.2.2 1, aJ ((kC K) 0) 49 u.1)], [(A.2.2.2.2.2.2.2 2, aJ ((kC K) 0) 49 u.2.1)], [(A.2.2.2.2.2.2.2 3, aJ ((kC K) 0) 40 u.2.2.1)], [(A.2.2.2.2.1 1, aJ ((kC K) 0) 2365 u.2.2.2.1)], [(A.2.2.2.2.1 2, aJ ((kC K) 0) 49 (fun _ => 0))], bk (kC K) A.2.2.1 S, bk (kC K) A.2.2.2.1 iniS, rmO A.2.2.2.2.2.1, [(A.2.2.2.2.2.1 1, aJ ((kC K) 0) 40 u.2.2.2.2.2.1)], [(A.2.2.2.2.2.1 2, aJ ((kC K) 0) 7 u.2.2.2.2.2.2.1)], [(A.2.2.2.2.2.1 3, aJ ((kC K) 0) 7 u.2.2.2.2.2.2.2.1)], [(A.2.2.2.2.2.1 4, aJ ((kC K) 0) 7 u.2.2.2.2.2.2.2.2)], orO A.2.2.2.2.2.2.1 (fun _ => 0), [(A.2.2.2.2.2.2.1 1, aJ ((kC K) 0) 100 (fun _ => 0))]] [some (.ref (A.1)), some (.int (iI f)), some (.int (iI t)), none] 0 []
  refine j_aload_n C dL_debt_0 rfl ?_
  refine j_iload_n C dL_debt_1 rfl ?_
  refine j_iload_n C dL_debt_2 rfl ?_
  refine j_perm (pm_18_0_9 _ _ _ _ _ _ _ _ _ _ _ _ _ _ _ _ _ _) ?_
  refine j_callVi C (As := [.int (iI _), .int (iI _)]) (c_X5_debt _ _ _ _ _ _ _ _ _ _ (A.2.2.2.2.2.2.2) _ _ _ _ (by first | assumption | omega) (by first | assumption | omega) (by first | assumption | omega)) 2 nf_X5_debt (jb := 0) rfl rfl wL_L_47 wI_X5_debt wSe_X5_X5_debt wIn_X5 wC_X5_debt rfl rfl (by decide) dL_debt_3 (Nat.le_of_ble_eq_true rfl) ⟨Nat.le_of_ble_eq_true rfl, Nat.le_of_ble_eq_true rfl⟩ (fun x3 u3 h3 => ?_)
  refine j_perm (pr_18_0_9 _ _ _ _ _ _ _ _ _ _ _ _ _ _ _ _ _ _) ?_
  refine j_flat wB_close ?_
  exact hR (u.1, u.2.1, u.2.2.1, u.2.2.2.1, u.2.2.2.2.1, u.2.2.2.2.2) dL_debt_6 (by exact h3) rfl (Nat.le_of_ble_eq_true rfl) (Nat.le_of_ble_eq_true rfl)
set_option maxHeartbeats 1600000 in
set_option maxRecDepth 100000 in
theorem c_L_net (l : Launch) (D : va_G) (cA : Nat → ClassId) (A : AT) (c : Int) (L : LT) (S : Int → Int) (u : SC) (p : Int) (hI : Inv S) (ha : 0 ≤ p ∧ p < S 0) : MW (U := SC) l yL_net cL_net 3 (some .int) [(0, 5, 6, 21)] (rmN 28 0 0) D cA [.ref (A.1), .int (iI p)] [wB cA A c L S u] (fun x _ => x = netS S p) (fun u => [wB cA A c L S u]) := by
  refine m_startW pn_L rfl (List.forall_mem_cons.mpr ⟨rfl, List.forall_mem_cons.mpr ⟨rfl, fun _ h => absurd h List.not_mem_nil⟩⟩) (Nat.le_of_ble_eq_true rfl) ?_
  intro K C e1 e2 e3 XK hR
  subst e1 e2 e3
  have hN := hI.2.1
  have hQ := hI.1
  refine j_flat wB_open ?_
  show J K 0 0 [prO A.1 A.2.1 A.2.2.1 A.2.2.2.1 A.2.2.2.2.1 A.2.2.2.2.2.1 A.2.2.2.2.2.2.1 c, svB (kC K) A.2.1 L, rgO A.2.2.2.2.1 (A.2.2.2.2.2.2.2 0) u.2.2.2.2.1, dbO A.2.2.2.2.2.2.2, [(A.2.2.2.2.2.2.2 1, aJ ((kC K) 0) 49 u.1)], [(A.2.2.2.2.2.2.2 2, aJ ((kC K) 0) 49 u.2.1)], [(A.2.2.2.2.2.2.2 3, aJ ((kC K) 0) 40 u.2.2.1)], [(A.2.2.2.2.1 1, aJ ((kC K) 0) 2365 u.2.2.2.1)], [(A.2.2.2.2.1 2, aJ ((kC K) 0) 49 (fun _ => 0))], bk (kC K) A.2.2.1 S, bk (kC K) A.2.2.2.1 iniS, rmO A.2.2.2.2.2.1, [(A.2.2.2.2.2.1 1, aJ ((kC K) 0) 40 u.2.2.2.2.2.1)], [(A.2.2.2.2.2.1 2, aJ ((kC K) 0) 7 u.2.2.2.2.2.2.1)], [(A.2.2.2.2.2.1 3, aJ ((kC K) 0) 7 u.2.2.2.2.2.2.2.1)], [(A.2.2.2.2.2.1 4, aJ ((kC K) 0) 7 u.2.2.2.2.2.2.2.2)], orO A.2.2.2.2.2.2.1 (fun _ => 0), [(A.2.2.2.2.2.2.1 1, aJ ((kC K) 0) 100 (fun _ => 0))]] [some (.ref (A.1)), some (.int (iI p)), none] 0 []
  refine j_aload_n C dL_net_0 rfl ?_
  refine j_iload_n C dL_net_1 rfl ?_
  refine j_perm (pm_18_0_9 _ _ _ _ _ _ _ _ _ _ _ _ _ _ _ _ _ _) ?_
  refine j_callVi C (As := [.int (iI _)]) (c_X5_net _ _ _ _ _ _ _ _ _ _ (A.2.2.2.2.2.2.2) _ _ _ (by first | assumption | omega) (by first | assumption | omega)) 1 nf_X5_net (jb := 0) rfl rfl wL_L_50 wI_X5_net wSe_X5_X5_net wIn_X5 wC_X5_net rfl rfl (by decide) dL_net_2 (Nat.le_of_ble_eq_true rfl) ⟨Nat.le_of_ble_eq_true rfl, Nat.le_of_ble_eq_true rfl⟩ (fun x2 u2 h2 => ?_)
  refine j_perm (pr_18_0_9 _ _ _ _ _ _ _ _ _ _ _ _ _ _ _ _ _ _) ?_
  refine j_flat wB_close ?_
  exact hR (u.1, u.2.1, u.2.2.1, u.2.2.2.1, u.2.2.2.2.1, u.2.2.2.2.2) dL_net_5 (by exact h2) rfl (Nat.le_of_ble_eq_true rfl) (Nat.le_of_ble_eq_true rfl)
set_option maxHeartbeats 1600000 in
set_option maxRecDepth 100000 in
theorem c_L_ring (l : Launch) (D : va_G) (cA : Nat → ClassId) (A : AT) (c : Int) (L : LT) (S : Int → Int) (u : SC) (j k : Int) (hI : Inv S) (hj : (0 ≤ j ∧ j < ((RS S).length : Int))) (hk : 0 ≤ k ∧ k < 7) : MW (U := SC) l yL_ring cL_ring 4 (some .int) [(0, 6, 7, 21), (0, 6, 11, 14)] (rmN 28 0 0) D cA [.ref (A.1), .int (iI j), .int (iI k)] [wB cA A c L S u] (fun x _ => x = ((RS S).getD j.toNat []).getD k.toNat (-1)) (fun u => [wB cA A c L S u]) := by
  refine m_startW pn_L rfl (List.forall_mem_cons.mpr ⟨rfl, List.forall_mem_cons.mpr ⟨rfl, List.forall_mem_cons.mpr ⟨rfl, fun _ h => absurd h List.not_mem_nil⟩⟩⟩) (Nat.le_of_ble_eq_true rfl) ?_
  intro K C e1 e2 e3 XK hR
  subst e1 e2 e3
  have hN := hI.2.1
  have hQ := hI.1
  refine j_flat wB_open ?_
  show J K 0 0 [prO A.1 A.2.1 A.2.2.1 A.2.2.2.1 A.2.2.2.2.1 A.2.2.2.2.2.1 A.2.2.2.2.2.2.1 c, svB (kC K) A.2.1 L, rgO A.2.2.2.2.1 (A.2.2.2.2.2.2.2 0) u.2.2.2.2.1, dbO A.2.2.2.2.2.2.2, [(A.2.2.2.2.2.2.2 1, aJ ((kC K) 0) 49 u.1)], [(A.2.2.2.2.2.2.2 2, aJ ((kC K) 0) 49 u.2.1)], [(A.2.2.2.2.2.2.2 3, aJ ((kC K) 0) 40 u.2.2.1)], [(A.2.2.2.2.1 1, aJ ((kC K) 0) 2365 u.2.2.2.1)], [(A.2.2.2.2.1 2, aJ ((kC K) 0) 49 (fun _ => 0))], bk (kC K) A.2.2.1 S, bk (kC K) A.2.2.2.1 iniS, rmO A.2.2.2.2.2.1, [(A.2.2.2.2.2.1 1, aJ ((kC K) 0) 40 u.2.2.2.2.2.1)], [(A.2.2.2.2.2.1 2, aJ ((kC K) 0) 7 u.2.2.2.2.2.2.1)], [(A.2.2.2.2.2.1 3, aJ ((kC K) 0) 7 u.2.2.2.2.2.2.2.1)], [(A.2.2.2.2.2.1 4, aJ ((kC K) 0) 7 u.2.2.2.2.2.2.2.2)], orO A.2.2.2.2.2.2.1 (fun _ => 0), [(A.2.2.2.2.2.2.1 1, aJ ((kC K) 0) 100 (fun _ => 0))]] [some (.ref (A.1)), some (.int (iI j)), some (.int (iI k)), none] 0 []
  refine j_aload_n C dL_ring_0 rfl ?_
  refine j_iload_n C dL_ring_1 rfl ?_
  refine j_iload_n C dL_ring_2 rfl ?_
  refine j_perm (pm_18_0_2_3_4_5_6_7_9 _ _ _ _ _ _ _ _ _ _ _ _ _ _ _ _ _ _) ?_
  refine j_callVi C (As := [.int (iI _), .int (iI _)]) (c_X5_ring _ _ _ _ _ _ _ _ _ _ (A.2.2.2.2.2.2.2) _ _ _ _ _ _ _ _ _ (by first | assumption | omega) (by first | assumption | omega) (by first | assumption | omega)) 2 nf_X5_ring (jb := 0) rfl rfl wL_L_53 wI_X5_ring wSe_X5_X5_ring wIn_X5 wC_X5_ring rfl rfl (by decide) dL_ring_3 (Nat.le_of_ble_eq_true rfl) ⟨Nat.le_of_ble_eq_true rfl, Nat.le_of_ble_eq_true rfl⟩ (fun x3 u3 h3 => ?_)
  refine j_perm (pr_18_0_2_3_4_5_6_7_9 _ _ _ _ _ _ _ _ _ _ _ _ _ _ _ _ _ _) ?_
  refine j_flat wB_close ?_
  exact hR (u3.1, u3.2.1, u3.2.2.1, u3.2.2.2, ((RS S).length : Int), u.2.2.2.2.2) dL_ring_6 (by exact h3) rfl (Nat.le_of_ble_eq_true rfl) (Nat.le_of_ble_eq_true rfl)
set_option maxHeartbeats 1600000 in
set_option maxRecDepth 100000 in
theorem c_L_room (l : Launch) (D : va_G) (cA : Nat → ClassId) (A : AT) (c : Int) (L : LT) (S : Int → Int) (u : SC) (j : Int) (hI : Inv S) (hj : (0 ≤ j ∧ j < ((RS S).length : Int))) : MW (U := SC) l yL_room cL_room 3 (some .int) [(0, 5, 6, 21)] (rmN 28 0 0) D cA [.ref (A.1), .int (iI j)] [wB cA A c L S u] (fun x _ => x = room S ((RS S).getD j.toNat [])) (fun u => [wB cA A c L S u]) := by
  refine m_startW pn_L rfl (List.forall_mem_cons.mpr ⟨rfl, List.forall_mem_cons.mpr ⟨rfl, fun _ h => absurd h List.not_mem_nil⟩⟩) (Nat.le_of_ble_eq_true rfl) ?_
  intro K C e1 e2 e3 XK hR
  subst e1 e2 e3
  have hN := hI.2.1
  have hQ := hI.1
  refine j_flat wB_open ?_
  show J K 0 0 [prO A.1 A.2.1 A.2.2.1 A.2.2.2.1 A.2.2.2.2.1 A.2.2.2.2.2.1 A.2.2.2.2.2.2.1 c, svB (kC K) A.2.1 L, rgO A.2.2.2.2.1 (A.2.2.2.2.2.2.2 0) u.2.2.2.2.1, dbO A.2.2.2.2.2.2.2, [(A.2.2.2.2.2.2.2 1, aJ ((kC K) 0) 49 u.1)], [(A.2.2.2.2.2.2.2 2, aJ ((kC K) 0) 49 u.2.1)], [(A.2.2.2.2.2.2.2 3, aJ ((kC K) 0) 40 u.2.2.1)], [(A.2.2.2.2.1 1, aJ ((kC K) 0) 2365 u.2.2.2.1)], [(A.2.2.2.2.1 2, aJ ((kC K) 0) 49 (fun _ => 0))], bk (kC K) A.2.2.1 S, bk (kC K) A.2.2.2.1 iniS, rmO A.2.2.2.2.2.1, [(A.2.2.2.2.2.1 1, aJ ((kC K) 0) 40 u.2.2.2.2.2.1)], [(A.2.2.2.2.2.1 2, aJ ((kC K) 0) 7 u.2.2.2.2.2.2.1)], [(A.2.2.2.2.2.1 3, aJ ((kC K) 0) 7 u.2.2.2.2.2.2.2.1)], [(A.2.2.2.2.2.1 4, aJ ((kC K) 0) 7 u.2.2.2.2.2.2.2.2)], orO A.2.2.2.2.2.2.1 (fun _ => 0), [(A.2.2.2.2.2.2.1 1, aJ ((kC K) 0) 100 (fun _ => 0))]] [some (.ref (A.1)), some (.int (iI j)), none] 0 []
  refine j_aload_n C dL_room_0 rfl ?_
  refine j_iload_n C dL_room_1 rfl ?_
  refine j_perm (pm_18_0_2_3_4_5_6_7_9 _ _ _ _ _ _ _ _ _ _ _ _ _ _ _ _ _ _) ?_
  refine j_callVi C (As := [.int (iI _)]) (c_X5_room _ _ _ _ _ _ _ _ _ _ (A.2.2.2.2.2.2.2) _ _ _ _ _ _ _ _ (by first | assumption | omega) (by first | assumption | omega)) 1 nf_X5_room (jb := 0) rfl rfl wL_L_56 wI_X5_room wSe_X5_X5_room wIn_X5 wC_X5_room rfl rfl (by decide) dL_room_2 (Nat.le_of_ble_eq_true rfl) ⟨Nat.le_of_ble_eq_true rfl, Nat.le_of_ble_eq_true rfl⟩ (fun x2 u2 h2 => ?_)
  refine j_perm (pr_18_0_2_3_4_5_6_7_9 _ _ _ _ _ _ _ _ _ _ _ _ _ _ _ _ _ _) ?_
  refine j_flat wB_close ?_
  exact hR (u2.1, u2.2.1, u2.2.2.1, u2.2.2.2, ((RS S).length : Int), u.2.2.2.2.2) dL_room_5 (by exact h2) rfl (Nat.le_of_ble_eq_true rfl) (Nat.le_of_ble_eq_true rfl)
set_option maxHeartbeats 1600000 in
set_option maxRecDepth 100000 in
theorem c_L_saving (l : Launch) (D : va_G) (cA : Nat → ClassId) (A : AT) (c : Int) (L : LT) (S : Int → Int) (u : SC) (j : Int) (hI : Inv S) (hj : (0 ≤ j ∧ j < ((RS S).length : Int))) : MW (U := SC) l yL_saving cL_saving 3 (some .int) [(0, 5, 6, 21)] (rmN 28 0 0) D cA [.ref (A.1), .int (iI j)] [wB cA A c L S u] (fun x _ => x = savP S ((RS S).getD j.toNat []) (room S ((RS S).getD j.toNat []))) (fun u => [wB cA A c L S u]) := by
  refine m_startW pn_L rfl (List.forall_mem_cons.mpr ⟨rfl, List.forall_mem_cons.mpr ⟨rfl, fun _ h => absurd h List.not_mem_nil⟩⟩) (Nat.le_of_ble_eq_true rfl) ?_
  intro K C e1 e2 e3 XK hR
  subst e1 e2 e3
  have hN := hI.2.1
  have hQ := hI.1
  refine j_flat wB_open ?_
  show J K 0 0 [prO A.1 A.2.1 A.2.2.1 A.2.2.2.1 A.2.2.2.2.1 A.2.2.2.2.2.1 A.2.2.2.2.2.2.1 c, svB (kC K) A.2.1 L, rgO A.2.2.2.2.1 (A.2.2.2.2.2.2.2 0) u.2.2.2.2.1, dbO A.2.2.2.2.2.2.2, [(A.2.2.2.2.2.2.2 1, aJ ((kC K) 0) 49 u.1)], [(A.2.2.2.2.2.2.2 2, aJ ((kC K) 0) 49 u.2.1)], [(A.2.2.2.2.2.2.2 3, aJ ((kC K) 0) 40 u.2.2.1)], [(A.2.2.2.2.1 1, aJ ((kC K) 0) 2365 u.2.2.2.1)], [(A.2.2.2.2.1 2, aJ ((kC K) 0) 49 (fun _ => 0))], bk (kC K) A.2.2.1 S, bk (kC K) A.2.2.2.1 iniS, rmO A.2.2.2.2.2.1, [(A.2.2.2.2.2.1 1, aJ ((kC K) 0) 40 u.2.2.2.2.2.1)], [(A.2.2.2.2.2.1 2, aJ ((kC K) 0) 7 u.2.2.2.2.2.2.1)], [(A.2.2.2.2.2.1 3, aJ ((kC K) 0) 7 u.2.2.2.2.2.2.2.1)], [(A.2.2.2.2.2.1 4, aJ ((kC K) 0) 7 u.2.2.2.2.2.2.2.2)], orO A.2.2.2.2.2.2.1 (fun _ => 0), [(A.2.2.2.2.2.2.1 1, aJ ((kC K) 0) 100 (fun _ => 0))]] [some (.ref (A.1)), some (.int (iI j)), none] 0 []
  refine j_aload_n C dL_saving_0 rfl ?_
  refine j_iload_n C dL_saving_1 rfl ?_
  refine j_perm (pm_18_0_2_3_4_5_6_7_9 _ _ _ _ _ _ _ _ _ _ _ _ _ _ _ _ _ _) ?_
  refine j_callVi C (As := [.int (iI _)]) (c_X5_saving _ _ _ _ _ _ _ _ _ _ (A.2.2.2.2.2.2.2) _ _ _ _ _ _ _ _ (by first | assumption | omega) (by first | assumption | omega)) 1 nf_X5_saving (jb := 0) rfl rfl wL_L_62 wI_X5_saving wSe_X5_X5_saving wIn_X5 wC_X5_saving rfl rfl (by decide) dL_saving_2 (Nat.le_of_ble_eq_true rfl) ⟨Nat.le_of_ble_eq_true rfl, Nat.le_of_ble_eq_true rfl⟩ (fun x2 u2 h2 => ?_)
  refine j_perm (pr_18_0_2_3_4_5_6_7_9 _ _ _ _ _ _ _ _ _ _ _ _ _ _ _ _ _ _) ?_
  refine j_flat wB_close ?_
  exact hR (u2.1, u2.2.1, u2.2.2.1, u2.2.2.2, ((RS S).length : Int), u.2.2.2.2.2) dL_saving_5 (by exact h2) rfl (Nat.le_of_ble_eq_true rfl) (Nat.le_of_ble_eq_true rfl)
set_option maxHeartbeats 1600000 in
set_option maxRecDepth 100000 in
theorem c_L_value (l : Launch) (D : va_G) (cA : Nat → ClassId) (A : AT) (c : Int) (L : LT) (S : Int → Int) (u : SC) (w : Int) (hI : Inv S) (hw : 0 ≤ w ∧ w ≤ 10) : MW (U := SC) l yL_value cL_value 3 (some .int) [(0, 5, 6, 14)] (rmN 28 0 0) D cA [.ref (A.1), .int (iI w)] [wB cA A c L S u] (fun x _ => x = valS S w) (fun u => [wB cA A c L S u]) := by
  refine m_startW pn_L rfl (List.forall_mem_cons.mpr ⟨rfl, List.forall_mem_cons.mpr ⟨rfl, fun _ h => absurd h List.not_mem_nil⟩⟩) (Nat.le_of_ble_eq_true rfl) ?_
  intro K C e1 e2 e3 XK hR
  subst e1 e2 e3
  have hN := hI.2.1
  have hQ := hI.1
  refine j_flat wB_open ?_
  show J K 0 0 [prO A.1 A.2.1 A.2.2.1 A.2.2.2.1 A.2.2.2.2.1 A.2.2.2.2.2.1 A.2.2.2.2.2.2.1 c, svB (kC K) A.2.1 L, rgO A.2.2.2.2.1 (A.2.2.2.2.2.2.2 0) u.2.2.2.2.1, dbO A.2.2.2.2.2.2.2, [(A.2.2.2.2.2.2.2 1, aJ ((kC K) 0) 49 u.1)], [(A.2.2.2.2.2.2.2 2, aJ ((kC K) 0) 49 u.2.1)], [(A.2.2.2.2.2.2.2 3, aJ ((kC K) 0) 40 u.2.2.1)], [(A.2.2.2.2.1 1, aJ ((kC K) 0) 2365 u.2.2.2.1)], [(A.2.2.2.2.1 2, aJ ((kC K) 0) 49 (fun _ => 0))], bk (kC K) A.2.2.1 S, bk (kC K) A.2.2.2.1 iniS, rmO A.2.2.2.2.2.1, [(A.2.2.2.2.2.1 1, aJ ((kC K) 0) 40 u.2.2.2.2.2.1)], [(A.2.2.2.2.2.1 2, aJ ((kC K) 0) 7 u.2.2.2.2.2.2.1)], [(A.2.2.2.2.2.1 3, aJ ((kC K) 0) 7 u.2.2.2.2.2.2.2.1)], [(A.2.2.2.2.2.1 4, aJ ((kC K) 0) 7 u.2.2.2.2.2.2.2.2)], orO A.2.2.2.2.2.2.1 (fun _ => 0), [(A.2.2.2.2.2.2.1 1, aJ ((kC K) 0) 100 (fun _ => 0))]] [some (.ref (A.1)), some (.int (iI w)), none] 0 []
  refine j_aload_n C dL_value_0 rfl ?_
  refine j_iload_n C dL_value_1 rfl ?_
  refine j_perm (pm_18_0_2_3_4_5_6_7_9 _ _ _ _ _ _ _ _ _ _ _ _ _ _ _ _ _ _) ?_
  refine j_callVi C (As := [.int (iI _)]) (c_X5_value _ _ _ _ _ _ _ _ _ _ (A.2.2.2.2.2.2.2) _ _ _ _ _ _ _ _ (by first | assumption | omega) (by first | assumption | omega)) 1 nf_X5_value (jb := 0) rfl rfl wL_L_59 wI_X5_value wSe_X5_X5_value wIn_X5 wC_X5_value rfl rfl (by decide) dL_value_2 (Nat.le_of_ble_eq_true rfl) ⟨Nat.le_of_ble_eq_true rfl, Nat.le_of_ble_eq_true rfl⟩ (fun x2 u2 h2 => ?_)
  refine j_perm (pr_18_0_2_3_4_5_6_7_9 _ _ _ _ _ _ _ _ _ _ _ _ _ _ _ _ _ _) ?_
  refine j_flat wB_close ?_
  exact hR (u2.1, u2.2.1, u2.2.2.1, u2.2.2.2.1, u2.2.2.2.2, u.2.2.2.2.2) dL_value_5 (by exact h2) rfl (Nat.le_of_ble_eq_true rfl) (Nat.le_of_ble_eq_true rfl)
set_option maxHeartbeats 1600000 in
set_option maxRecDepth 100000 in
theorem c_L_begins (l : Launch) (D : va_G) (cA : Nat → ClassId) (A : AT) (c : Int) (L : LT) (S : Int → Int) (u : SC) (p : Int) (hI : Inv S) (hz : Inz S) (hc : HCL c L) (hp : 2 ≤ p ∧ p ≤ 7) : MW (U := LT × SC) l yL_begins cL_begins 3 (some .int) [(0, 5, 6, 14)] (rmN 28 9 333) D cA [.ref (A.1), .int (iI p)] [wB cA A c L S u] (fun x9 g => x9 = S 1 ∧ SVd c L S g.1) (fun g => [wB cA A (cNx c) g.1 (rstP S p) g.2]) := by
  refine m_startW pn_L rfl (List.forall_mem_cons.mpr ⟨rfl, List.forall_mem_cons.mpr ⟨rfl, fun _ h => absurd h List.not_mem_nil⟩⟩) (Nat.le_of_ble_eq_true rfl) ?_
  intro K C e1 e2 e3 XK hR
  subst e1 e2 e3
  have hN := hI.2.1
  have hQ := hI.1
  refine j_flat wB_open ?_
  show J K 0 0 [prO A.1 A.2.1 A.2.2.1 A.2.2.2.1 A.2.2.2.2.1 A.2.2.2.2.2.1 A.2.2.2.2.2.2.1 c, svB (kC K) A.2.1 L, rgO A.2.2.2.2.1 (A.2.2.2.2.2.2.2 0) u.2.2.2.2.1, dbO A.2.2.2.2.2.2.2, [(A.2.2.2.2.2.2.2 1, aJ ((kC K) 0) 49 u.1)], [(A.2.2.2.2.2.2.2 2, aJ ((kC K) 0) 49 u.2.1)], [(A.2.2.2.2.2.2.2 3, aJ ((kC K) 0) 40 u.2.2.1)], [(A.2.2.2.2.1 1, aJ ((kC K) 0) 2365 u.2.2.2.1)], [(A.2.2.2.2.1 2, aJ ((kC K) 0) 49 (fun _ => 0))], bk (kC K) A.2.2.1 S, bk (kC K) A.2.2.2.1 iniS, rmO A.2.2.2.2.2.1, [(A.2.2.2.2.2.1 1, aJ ((kC K) 0) 40 u.2.2.2.2.2.1)], [(A.2.2.2.2.2.1 2, aJ ((kC K) 0) 7 u.2.2.2.2.2.2.1)], [(A.2.2.2.2.2.1 3, aJ ((kC K) 0) 7 u.2.2.2.2.2.2.2.1)], [(A.2.2.2.2.2.1 4, aJ ((kC K) 0) 7 u.2.2.2.2.2.2.2.2)], orO A.2.2.2.2.2.2.1 (fun _ => 0), [(A.2.2.2.2.2.2.1 1, aJ ((kC K) 0) 100 (fun _ => 0))]] [some (.ref (A.1)), some (.int (iI p)), none] 0 []
  refine j_aload_n C dL_begins_0 rfl ?_
  refine j_iload_n C dL_begins_1 rfl ?_
  refine j_perm (pm_18_0_1_9 _ _ _ _ _ _ _ _ _ _ _ _ _ _ _ _ _ _) ?_
  refine j_callVi C (As := [.int (iI _)]) (c_X5_begin _ _ _ _ _ _ _ _ _ _ (A.2.2.2.2.2.2.2) _ _ _ _ (by first | assumption | omega) (by first | assumption | omega) (by first | assumption | omega) (by first | assumption | omega)) 1 nf_X5_begin (jb := 0) rfl rfl wL_L_8 wI_X5_begin wSe_X5_X5_begin wIn_X5 wC_X5_begin rfl rfl (by decide) dL_begins_2 (Nat.le_of_ble_eq_true rfl) ⟨Nat.le_of_ble_eq_true rfl, Nat.le_of_ble_eq_true rfl⟩ (fun x2 u2 h2 => ?_)
  refine j_perm (pr_18_0_1_9 _ _ _ _ _ _ _ _ _ _ _ _ _ _ _ _ _ _) ?_
  refine j_flat wB_close ?_
  exact hR (u2, (u.1, u.2.1, u.2.2.1, u.2.2.2.1, u.2.2.2.2.1, u.2.2.2.2.2)) dL_begins_5 (by exact h2) rfl (Nat.le_of_ble_eq_true rfl) (Nat.le_of_ble_eq_true rfl)
set_option maxHeartbeats 1600000 in
set_option maxRecDepth 100000 in
theorem c_L_promises (l : Launch) (D : va_G) (cA : Nat → ClassId) (A : AT) (c : Int) (L : LT) (S : Int → Int) (u : SC) (f t x y : Int) (hI : Inv S) (hz : Inz S) (hc : HCL c L) (ha : 0 ≤ f ∧ f < S 0) (he : 0 ≤ t ∧ t < S 0) (hne : f ≠ t) (hx : 1 ≤ x ∧ x ≤ 1000) (hy : 1 ≤ y ∧ y ≤ 9) (hn : S 1 < 40) : MW (U := LT × SC) l yL_promises cL_promises 6 (some .int) [(0, 9, 10, 21), (0, 9, 15, 14), (0, 9, 20, 24)] (rmN 28 9 333) D cA [.ref (A.1), .int (iI f), .int (iI t), .int (iI x), .int (iI y)] [wB cA A c L S u] (fun x9 g => x9 = S 1 ∧ SVd c L S g.1) (fun g => [wB cA A (cNx c) g.1 (addP S f t x y) g.2]) := by
  refine m_startW pn_L rfl (List.forall_mem_cons.mpr ⟨rfl, List.forall_mem_cons.mpr ⟨rfl, List.forall_mem_cons.mpr ⟨rfl, List.forall_mem_cons.mpr ⟨rfl, List.forall_mem_cons.mpr ⟨rfl, fun _ h => absurd h List.not_mem_nil⟩⟩⟩⟩⟩) (Nat.le_of_ble_eq_true rfl) ?_
  intro K C e1 e2 e3 XK hR
  subst e1 e2 e3
  have hN := hI.2.1
  have hQ := hI.1
  refine j_flat wB_open ?_
  show J K 0 0 [prO A.1 A.2.1 A.2.2.1 A.2.2.2.1 A.2.2.2.2.1 A.2.2.2.2.2.1 A.2.2.2.2.2.2.1 c, svB (kC K) A.2.1 L, rgO A.2.2.2.2.1 (A.2.2.2.2.2.2.2 0) u.2.2.2.2.1, dbO A.2.2.2.2.2.2.2, [(A.2.2.2.2.2.2.2 1, aJ ((kC K) 0) 49 u.1)], [(A.2.2.2.2.2.2.2 2, aJ ((kC K) 0) 49 u.2.1)], [(A.2.2.2.2.2.2.2 3, aJ ((kC K) 0) 40 u.2.2.1)], [(A.2.2.2.2.1 1, aJ ((kC K) 0) 2365 u.2.2.2.1)], [(A.2.2.2.2.1 2, aJ ((kC K) 0) 49 (fun _ => 0))], bk (kC K) A.2.2.1 S, bk (kC K) A.2.2.2.1 iniS, rmO A.2.2.2.2.2.1, [(A.2.2.2.2.2.1 1, aJ ((kC K) 0) 40 u.2.2.2.2.2.1)], [(A.2.2.2.2.2.1 2, aJ ((kC K) 0) 7 u.2.2.2.2.2.2.1)], [(A.2.2.2.2.2.1 3, aJ ((kC K) 0) 7 u.2.2.2.2.2.2.2.1)], [(A.2.2.2.2.2.1 4, aJ ((kC K) 0) 7 u.2.2.2.2.2.2.2.2)], orO A.2.2.2.2.2.2.1 (fun _ => 0), [(A.2.2.2.2.2.2.1 1, aJ ((kC K) 0) 100 (fun _ => 0))]] [some (.ref (A.1)), some (.int (iI f)), some (.int (iI t)), some (.int (iI x)), some (.int (iI y)), none] 0 []
  refine j_aload_n C dL_promises_0 rfl ?_
  refine j_iload_n C dL_promises_1 rfl ?_
  refine j_iload_n C dL_promises_2 rfl ?_
  refine j_iload_n C dL_promises_3 rfl ?_
  refine j_iload C dL_promises_4 rfl ?_
  refine j_perm (pm_18_0_1_9 _ _ _ _ _ _ _ _ _ _ _ _ _ _ _ _ _ _) ?_
  refine j_callVi C (As := [.int (iI _), .int (iI _), .int (iI _), .int (iI _)]) (c_X5_promise _ _ _ _ _ _ _ _ _ _ (A.2.2.2.2.2.2.2) _ _ _ _ _ _ _ (by first | assumption | omega) (by first | assumption | omega) (by first | assumption | omega) (by first | assumption | omega) (by first | assumption | omega) (by first | assumption | omega) (by first | assumption | omega) (by first | assumption | omega) (by first | assumption | omega)) 4 nf_X5_promise (jb := 0) rfl rfl wL_L_17 wI_X5_promise wSe_X5_X5_promise wIn_X5 wC_X5_promise rfl rfl (by decide) dL_promises_6 (Nat.le_of_ble_eq_true rfl) ⟨Nat.le_of_ble_eq_true rfl, Nat.le_of_ble_eq_true rfl⟩ (fun x6 u6 h6 => ?_)
  refine j_perm (pr_18_0_1_9 _ _ _ _ _ _ _ _ _ _ _ _ _ _ _ _ _ _) ?_
  refine j_flat wB_close ?_
  exact hR (u6, (u.1, u.2.1, u.2.2.1, u.2.2.2.1, u.2.2.2.2.1, u.2.2.2.2.2)) dL_promises_9 (by exact h6) rfl (Nat.le_of_ble_eq_true rfl) (Nat.le_of_ble_eq_true rfl)
set_option maxHeartbeats 1600000 in
set_option maxRecDepth 100000 in
theorem c_L_pays (l : Launch) (D : va_G) (cA : Nat → ClassId) (A : AT) (c : Int) (L : LT) (S : Int → Int) (u : SC) (i w : Int) (hI : Inv S) (hz : Inz S) (hc : HCL c L) (hi : (0 ≤ i ∧ i < S 1)) (ha : 1 ≤ w ∧ w ≤ am S i) : MW (U := LT × SC) l yL_pays cL_pays 4 (some .int) [(0, 6, 7, 21), (0, 6, 11, 14), (0, 6, 15, 24)] (rmN 28 9 333) D cA [.ref (A.1), .int (iI i), .int (iI w)] [wB cA A c L S u] (fun x9 g => x9 = am (payP S i w) i ∧ SVd c L S g.1) (fun g => [wB cA A (cNx c) g.1 (payP S i w) g.2]) := by
  refine m_startW pn_L rfl (List.forall_mem_cons.mpr ⟨rfl, List.forall_mem_cons.mpr ⟨rfl, List.forall_mem_cons.mpr ⟨rfl, fun _ h => absurd h List.not_mem_nil⟩⟩⟩) (Nat.le_of_ble_eq_true rfl) ?_
  intro K C e1 e2 e3 XK hR
  subst e1 e2 e3
  have hN := hI.2.1
  have hQ := hI.1
  refine j_flat wB_open ?_
  show J K 0 0 [prO A.1 A.2.1 A.2.2.1 A.2.2.2.1 A.2.2.2.2.1 A.2.2.2.2.2.1 A.2.2.2.2.2.2.1 c, svB (kC K) A.2.1 L, rgO A.2.2.2.2.1 (A.2.2.2.2.2.2.2 0) u.2.2.2.2.1, dbO A.2.2.2.2.2.2.2, [(A.2.2.2.2.2.2.2 1, aJ ((kC K) 0) 49 u.1)], [(A.2.2.2.2.2.2.2 2, aJ ((kC K) 0) 49 u.2.1)], [(A.2.2.2.2.2.2.2 3, aJ ((kC K) 0) 40 u.2.2.1)], [(A.2.2.2.2.1 1, aJ ((kC K) 0) 2365 u.2.2.2.1)], [(A.2.2.2.2.1 2, aJ ((kC K) 0) 49 (fun _ => 0))], bk (kC K) A.2.2.1 S, bk (kC K) A.2.2.2.1 iniS, rmO A.2.2.2.2.2.1, [(A.2.2.2.2.2.1 1, aJ ((kC K) 0) 40 u.2.2.2.2.2.1)], [(A.2.2.2.2.2.1 2, aJ ((kC K) 0) 7 u.2.2.2.2.2.2.1)], [(A.2.2.2.2.2.1 3, aJ ((kC K) 0) 7 u.2.2.2.2.2.2.2.1)], [(A.2.2.2.2.2.1 4, aJ ((kC K) 0) 7 u.2.2.2.2.2.2.2.2)], orO A.2.2.2.2.2.2.1 (fun _ => 0), [(A.2.2.2.2.2.2.1 1, aJ ((kC K) 0) 100 (fun _ => 0))]] [some (.ref (A.1)), some (.int (iI i)), some (.int (iI w)), none] 0 []
  refine j_aload_n C dL_pays_0 rfl ?_
  refine j_iload_n C dL_pays_1 rfl ?_
  refine j_iload_n C dL_pays_2 rfl ?_
  refine j_perm (pm_18_0_1_9 _ _ _ _ _ _ _ _ _ _ _ _ _ _ _ _ _ _) ?_
  refine j_callVi C (As := [.int (iI _), .int (iI _)]) (c_X5_pay _ _ _ _ _ _ _ _ _ _ (A.2.2.2.2.2.2.2) _ _ _ _ _ (by first | assumption | omega) (by first | assumption | omega) (by first | assumption | omega) (by first | assumption | omega) (by first | assumption | omega)) 2 nf_X5_pay (jb := 0) rfl rfl wL_L_27 wI_X5_pay wSe_X5_X5_pay wIn_X5 wC_X5_pay rfl rfl (by decide) dL_pays_3 (Nat.le_of_ble_eq_true rfl) ⟨Nat.le_of_ble_eq_true rfl, Nat.le_of_ble_eq_true rfl⟩ (fun x3 u3 h3 => ?_)
  refine j_perm (pr_18_0_1_9 _ _ _ _ _ _ _ _ _ _ _ _ _ _ _ _ _ _) ?_
  refine j_flat wB_close ?_
  exact hR (u3, (u.1, u.2.1, u.2.2.1, u.2.2.2.1, u.2.2.2.2.1, u.2.2.2.2.2)) dL_pays_6 (by exact h3) rfl (Nat.le_of_ble_eq_true rfl) (Nat.le_of_ble_eq_true rfl)
set_option maxHeartbeats 1600000 in
set_option maxRecDepth 100000 in
theorem c_L_disputes (l : Launch) (D : va_G) (cA : Nat → ClassId) (A : AT) (c : Int) (L : LT) (S : Int → Int) (u : SC) (i : Int) (hI : Inv S) (hz : Inz S) (hc : HCL c L) (hi : (0 ≤ i ∧ i < S 1)) (ha : 0 < am S i ∧ di S i = 0) : MW (U := LT × SC) l yL_disputes cL_disputes 3 (some .int) [(0, 5, 6, 21), (0, 5, 10, 24)] (rmN 28 9 333) D cA [.ref (A.1), .int (iI i)] [wB cA A c L S u] (fun x9 g => x9 = ((RS S).length : Int) - ((RS (st S (9 + 8 * i) 1)).length : Int) ∧ SVd c L S g.1) (fun g => [wB cA A (cNx c) g.1 ((st S (9 + 8 * i) 1)) g.2]) := by
  refine m_startW pn_L rfl (List.forall_mem_cons.mpr ⟨rfl, List.forall_mem_cons.mpr ⟨rfl, fun _ h => absurd h List.not_mem_nil⟩⟩) (Nat.le_of_ble_eq_true rfl) ?_
  intro K C e1 e2 e3 XK hR
  subst e1 e2 e3
  have hN := hI.2.1
  have hQ := hI.1
  refine j_flat wB_open ?_
  show J K 0 0 [prO A.1 A.2.1 A.2.2.1 A.2.2.2.1 A.2.2.2.2.1 A.2.2.2.2.2.1 A.2.2.2.2.2.2.1 c, svB (kC K) A.2.1 L, rgO A.2.2.2.2.1 (A.2.2.2.2.2.2.2 0) u.2.2.2.2.1, dbO A.2.2.2.2.2.2.2, [(A.2.2.2.2.2.2.2 1, aJ ((kC K) 0) 49 u.1)], [(A.2.2.2.2.2.2.2 2, aJ ((kC K) 0) 49 u.2.1)], [(A.2.2.2.2.2.2.2 3, aJ ((kC K) 0) 40 u.2.2.1)], [(A.2.2.2.2.1 1, aJ ((kC K) 0) 2365 u.2.2.2.1)], [(A.2.2.2.2.1 2, aJ ((kC K) 0) 49 (fun _ => 0))], bk (kC K) A.2.2.1 S, bk (kC K) A.2.2.2.1 iniS, rmO A.2.2.2.2.2.1, [(A.2.2.2.2.2.1 1, aJ ((kC K) 0) 40 u.2.2.2.2.2.1)], [(A.2.2.2.2.2.1 2, aJ ((kC K) 0) 7 u.2.2.2.2.2.2.1)], [(A.2.2.2.2.2.1 3, aJ ((kC K) 0) 7 u.2.2.2.2.2.2.2.1)], [(A.2.2.2.2.2.1 4, aJ ((kC K) 0) 7 u.2.2.2.2.2.2.2.2)], orO A.2.2.2.2.2.2.1 (fun _ => 0), [(A.2.2.2.2.2.2.1 1, aJ ((kC K) 0) 100 (fun _ => 0))]] [some (.ref (A.1)), some (.int (iI i)), none] 0 []
  refine j_aload_n C dL_disputes_0 rfl ?_
  refine j_iload_n C dL_disputes_1 rfl ?_
  refine j_perm (pm_18_0_1_2_3_4_5_6_7_9 _ _ _ _ _ _ _ _ _ _ _ _ _ _ _ _ _ _) ?_
  refine j_callVi C (As := [.int (iI _)]) (c_X5_dispute _ _ _ _ _ _ _ _ _ _ (A.2.2.2.2.2.2.2) _ _ _ _ _ _ _ _ _ (by first | assumption | omega) (by first | assumption | omega) (by first | assumption | omega) (by first | assumption | omega) (by first | assumption | omega)) 1 nf_X5_dispute (jb := 0) rfl rfl wL_L_31 wI_X5_dispute wSe_X5_X5_dispute wIn_X5 wC_X5_dispute rfl rfl (by decide) dL_disputes_2 (Nat.le_of_ble_eq_true rfl) ⟨Nat.le_of_ble_eq_true rfl, Nat.le_of_ble_eq_true rfl⟩ (fun x2 u2 h2 => ?_)
  refine j_perm (pr_18_0_1_2_3_4_5_6_7_9 _ _ _ _ _ _ _ _ _ _ _ _ _ _ _ _ _ _) ?_
  refine j_flat wB_close ?_
  exact hR (u2.2, (u2.1.1, u2.1.2.1, u2.1.2.2.1, u2.1.2.2.2, ((RS (st S (9 + 8 * i) 1)).length : Int), u.2.2.2.2.2)) dL_disputes_5 (by exact h2) rfl (Nat.le_of_ble_eq_true rfl) (Nat.le_of_ble_eq_true rfl)
set_option maxHeartbeats 1600000 in
set_option maxRecDepth 100000 in
theorem c_L_settles (l : Launch) (D : va_G) (cA : Nat → ClassId) (A : AT) (c : Int) (L : LT) (S : Int → Int) (u : SC) (i : Int) (hI : Inv S) (hz : Inz S) (hc : HCL c L) (hi : (0 ≤ i ∧ i < S 1)) (ha : di S i = 1) : MW (U := LT × SC) l yL_settles cL_settles 3 (some .int) [(0, 5, 6, 21), (0, 5, 10, 24)] (rmN 28 9 333) D cA [.ref (A.1), .int (iI i)] [wB cA A c L S u] (fun x9 g => x9 = ((RS (st S (9 + 8 * i) 0)).length : Int) ∧ SVd c L S g.1) (fun g => [wB cA A (cNx c) g.1 ((st S (9 + 8 * i) 0)) g.2]) := by
  refine m_startW pn_L rfl (List.forall_mem_cons.mpr ⟨rfl, List.forall_mem_cons.mpr ⟨rfl, fun _ h => absurd h List.not_mem_nil⟩⟩) (Nat.le_of_ble_eq_true rfl) ?_
  intro K C e1 e2 e3 XK hR
  subst e1 e2 e3
  have hN := hI.2.1
  have hQ := hI.1
  refine j_flat wB_open ?_
  show J K 0 0 [prO A.1 A.2.1 A.2.2.1 A.2.2.2.1 A.2.2.2.2.1 A.2.2.2.2.2.1 A.2.2.2.2.2.2.1 c, svB (kC K) A.2.1 L, rgO A.2.2.2.2.1 (A.2.2.2.2.2.2.2 0) u.2.2.2.2.1, dbO A.2.2.2.2.2.2.2, [(A.2.2.2.2.2.2.2 1, aJ ((kC K) 0) 49 u.1)], [(A.2.2.2.2.2.2.2 2, aJ ((kC K) 0) 49 u.2.1)], [(A.2.2.2.2.2.2.2 3, aJ ((kC K) 0) 40 u.2.2.1)], [(A.2.2.2.2.1 1, aJ ((kC K) 0) 2365 u.2.2.2.1)], [(A.2.2.2.2.1 2, aJ ((kC K) 0) 49 (fun _ => 0))], bk (kC K) A.2.2.1 S, bk (kC K) A.2.2.2.1 iniS, rmO A.2.2.2.2.2.1, [(A.2.2.2.2.2.1 1, aJ ((kC K) 0) 40 u.2.2.2.2.2.1)], [(A.2.2.2.2.2.1 2, aJ ((kC K) 0) 7 u.2.2.2.2.2.2.1)], [(A.2.2.2.2.2.1 3, aJ ((kC K) 0) 7 u.2.2.2.2.2.2.2.1)], [(A.2.2.2.2.2.1 4, aJ ((kC K) 0) 7 u.2.2.2.2.2.2.2.2)], orO A.2.2.2.2.2.2.1 (fun _ => 0), [(A.2.2.2.2.2.2.1 1, aJ ((kC K) 0) 100 (fun _ => 0))]] [some (.ref (A.1)), some (.int (iI i)), none] 0 []
  refine j_aload_n C dL_settles_0 rfl ?_
  refine j_iload_n C dL_settles_1 rfl ?_
  refine j_perm (pm_18_0_1_2_3_4_5_6_7_9 _ _ _ _ _ _ _ _ _ _ _ _ _ _ _ _ _ _) ?_
  refine j_callVi C (As := [.int (iI _)]) (c_X5_settle _ _ _ _ _ _ _ _ _ _ (A.2.2.2.2.2.2.2) _ _ _ _ _ _ _ _ _ (by first | assumption | omega) (by first | assumption | omega) (by first | assumption | omega) (by first | assumption | omega) (by first | assumption | omega)) 1 nf_X5_settle (jb := 0) rfl rfl wL_L_34 wI_X5_settle wSe_X5_X5_settle wIn_X5 wC_X5_settle rfl rfl (by decide) dL_settles_2 (Nat.le_of_ble_eq_true rfl) ⟨Nat.le_of_ble_eq_true rfl, Nat.le_of_ble_eq_true rfl⟩ (fun x2 u2 h2 => ?_)
  refine j_perm (pr_18_0_1_2_3_4_5_6_7_9 _ _ _ _ _ _ _ _ _ _ _ _ _ _ _ _ _ _) ?_
  refine j_flat wB_close ?_
  exact hR (u2.2, (u2.1.1, u2.1.2.1, u2.1.2.2.1, u2.1.2.2.2, ((RS (st S (9 + 8 * i) 0)).length : Int), u.2.2.2.2.2)) dL_settles_5 (by exact h2) rfl (Nat.le_of_ble_eq_true rfl) (Nat.le_of_ble_eq_true rfl)
set_option maxHeartbeats 1600000 in
set_option maxRecDepth 100000 in
theorem c_L_discharges (l : Launch) (D : va_G) (cA : Nat → ClassId) (A : AT) (c : Int) (L : LT) (S : Int → Int) (u : SC) (j w : Int) (hI : Inv S) (hz : Inz S) (hc : HCL c L) (hj : (0 ≤ j ∧ j < ((RS S).length : Int))) (ha : 1 ≤ w ∧ w ≤ room S ((RS S).getD j.toNat [])) : MW (U := LT × SC) l yL_discharges cL_discharges 4 (some .int) [(0, 6, 7, 21), (0, 6, 11, 14), (0, 6, 15, 24)] (rmN 28 9 333) D cA [.ref (A.1), .int (iI j), .int (iI w)] [wB cA A c L S u] (fun x9 g => x9 = savP S ((RS S).getD j.toNat []) w ∧ SVd c L S g.1) (fun g => [wB cA A (cNx c) g.1 (disR S ((RS S).getD j.toNat []) w) g.2]) := by
  refine m_startW pn_L rfl (List.forall_mem_cons.mpr ⟨rfl, List.forall_mem_cons.mpr ⟨rfl, List.forall_mem_cons.mpr ⟨rfl, fun _ h => absurd h List.not_mem_nil⟩⟩⟩) (Nat.le_of_ble_eq_true rfl) ?_
  intro K C e1 e2 e3 XK hR
  subst e1 e2 e3
  have hN := hI.2.1
  have hQ := hI.1
  refine j_flat wB_open ?_
  show J K 0 0 [prO A.1 A.2.1 A.2.2.1 A.2.2.2.1 A.2.2.2.2.1 A.2.2.2.2.2.1 A.2.2.2.2.2.2.1 c, svB (kC K) A.2.1 L, rgO A.2.2.2.2.1 (A.2.2.2.2.2.2.2 0) u.2.2.2.2.1, dbO A.2.2.2.2.2.2.2, [(A.2.2.2.2.2.2.2 1, aJ ((kC K) 0) 49 u.1)], [(A.2.2.2.2.2.2.2 2, aJ ((kC K) 0) 49 u.2.1)], [(A.2.2.2.2.2.2.2 3, aJ ((kC K) 0) 40 u.2.2.1)], [(A.2.2.2.2.1 1, aJ ((kC K) 0) 2365 u.2.2.2.1)], [(A.2.2.2.2.1 2, aJ ((kC K) 0) 49 (fun _ => 0))], bk (kC K) A.2.2.1 S, bk (kC K) A.2.2.2.1 iniS, rmO A.2.2.2.2.2.1, [(A.2.2.2.2.2.1 1, aJ ((kC K) 0) 40 u.2.2.2.2.2.1)], [(A.2.2.2.2.2.1 2, aJ ((kC K) 0) 7 u.2.2.2.2.2.2.1)], [(A.2.2.2.2.2.1 3, aJ ((kC K) 0) 7 u.2.2.2.2.2.2.2.1)], [(A.2.2.2.2.2.1 4, aJ ((kC K) 0) 7 u.2.2.2.2.2.2.2.2)], orO A.2.2.2.2.2.2.1 (fun _ => 0), [(A.2.2.2.2.2.2.1 1, aJ ((kC K) 0) 100 (fun _ => 0))]] [some (.ref (A.1)), some (.int (iI j)), some (.int (iI w)), none] 0 []
  refine j_aload_n C dL_discharges_0 rfl ?_
  refine j_iload_n C dL_discharges_1 rfl ?_
  refine j_iload_n C dL_discharges_2 rfl ?_
  refine j_perm (pm_18_0_1_2_3_4_5_6_7_9 _ _ _ _ _ _ _ _ _ _ _ _ _ _ _ _ _ _) ?_
  refine j_callVi C (As := [.int (iI _), .int (iI _)]) (c_X5_discharge _ _ _ _ _ _ _ _ _ _ (A.2.2.2.2.2.2.2) _ _ _ _ _ _ _ _ _ _ (by first | assumption | omega) (by first | assumption | omega) (by first | assumption | omega) (by first | assumption | omega) (by first | assumption | omega)) 2 nf_X5_discharge (jb := 0) rfl rfl wL_L_37 wI_X5_discharge wSe_X5_X5_discharge wIn_X5 wC_X5_discharge rfl rfl (by decide) dL_discharges_3 (Nat.le_of_ble_eq_true rfl) ⟨Nat.le_of_ble_eq_true rfl, Nat.le_of_ble_eq_true rfl⟩ (fun x3 u3 h3 => ?_)
  refine j_perm (pr_18_0_1_2_3_4_5_6_7_9 _ _ _ _ _ _ _ _ _ _ _ _ _ _ _ _ _ _) ?_
  refine j_flat wB_close ?_
  exact hR (u3.2, (u3.1.1, u3.1.2.1, u3.1.2.2.1, u3.1.2.2.2, ((RS S).length : Int), u.2.2.2.2.2)) dL_discharges_6 (by exact h3) rfl (Nat.le_of_ble_eq_true rfl) (Nat.le_of_ble_eq_true rfl)
set_option maxHeartbeats 1600000 in
set_option maxRecDepth 100000 in
theorem c_L_bests (l : Launch) (D : va_G) (cA : Nat → ClassId) (A : AT) (c : Int) (L : LT) (S : Int → Int) (u : SC) (hI : Inv S) (hz : Inz S) (hc : HCL c L) (hr : 0 < (RS S).length) : MW (U := LT × SC) l yL_bests cL_bests 2 (some .int) [(0, 4, 5, 24)] (rmN 28 9 333) D cA [.ref (A.1)] [wB cA A c L S u] (fun x9 g => x9 = bestV S ∧ SVd c L S g.1) (fun g => [wB cA A (cNx c) g.1 (if best S = -1 then S else disB S) g.2]) := by
  refine m_startW pn_L rfl (List.forall_mem_cons.mpr ⟨rfl, fun _ h => absurd h List.not_mem_nil⟩) (Nat.le_of_ble_eq_true rfl) ?_
  intro K C e1 e2 e3 XK hR
  subst e1 e2 e3
  have hN := hI.2.1
  have hQ := hI.1
  refine j_flat wB_open ?_
  show J K 0 0 [prO A.1 A.2.1 A.2.2.1 A.2.2.2.1 A.2.2.2.2.1 A.2.2.2.2.2.1 A.2.2.2.2.2.2.1 c, svB (kC K) A.2.1 L, rgO A.2.2.2.2.1 (A.2.2.2.2.2.2.2 0) u.2.2.2.2.1, dbO A.2.2.2.2.2.2.2, [(A.2.2.2.2.2.2.2 1, aJ ((kC K) 0) 49 u.1)], [(A.2.2.2.2.2.2.2 2, aJ ((kC K) 0) 49 u.2.1)], [(A.2.2.2.2.2.2.2 3, aJ ((kC K) 0) 40 u.2.2.1)], [(A.2.2.2.2.1 1, aJ ((kC K) 0) 2365 u.2.2.2.1)], [(A.2.2.2.2.1 2, aJ ((kC K) 0) 49 (fun _ => 0))], bk (kC K) A.2.2.1 S, bk (kC K) A.2.2.2.1 iniS, rmO A.2.2.2.2.2.1, [(A.2.2.2.2.2.1 1, aJ ((kC K) 0) 40 u.2.2.2.2.2.1)], [(A.2.2.2.2.2.1 2, aJ ((kC K) 0) 7 u.2.2.2.2.2.2.1)], [(A.2.2.2.2.2.1 3, aJ ((kC K) 0) 7 u.2.2.2.2.2.2.2.1)], [(A.2.2.2.2.2.1 4, aJ ((kC K) 0) 7 u.2.2.2.2.2.2.2.2)], orO A.2.2.2.2.2.2.1 (fun _ => 0), [(A.2.2.2.2.2.2.1 1, aJ ((kC K) 0) 100 (fun _ => 0))]] [some (.ref (A.1)), none] 0 []
  refine j_aload_n C dL_bests_0 rfl ?_
  refine j_perm (pm_18_0_1_2_3_4_5_6_7_9 _ _ _ _ _ _ _ _ _ _ _ _ _ _ _ _ _ _) ?_
  refine j_callVi C (As := []) (c_X5_dischargeBest _ _ _ _ _ _ _ _ _ _ (A.2.2.2.2.2.2.2) _ _ _ _ _ _ _ _ (by first | assumption | omega) (by first | assumption | omega) (by first | assumption | omega) (by first | assumption | omega)) 0 nf_X5_dischargeBest (jb := 0) rfl rfl wL_L_40 wI_X5_dischargeBest wSe_X5_X5_dischargeBest wIn_X5 wC_X5_dischargeBest rfl rfl (by decide) dL_bests_1 (Nat.le_of_ble_eq_true rfl) ⟨Nat.le_of_ble_eq_true rfl, Nat.le_of_ble_eq_true rfl⟩ (fun x1 u1 h1 => ?_)
  refine j_perm (pr_18_0_1_2_3_4_5_6_7_9 _ _ _ _ _ _ _ _ _ _ _ _ _ _ _ _ _ _) ?_
  refine j_flat wB_close ?_
  exact hR (u1.2, (u1.1.1, u1.1.2.1, u1.1.2.2.1, u1.1.2.2.2, ((RS S).length : Int), u.2.2.2.2.2)) dL_bests_4 (by exact h1) rfl (Nat.le_of_ble_eq_true rfl) (Nat.le_of_ble_eq_true rfl)
set_option maxHeartbeats 1600000 in
set_option maxRecDepth 100000 in
theorem c_L_begins_xA (l : Launch) (D : va_G) (cA : Nat → ClassId) (A : AT) (c : Int) (L : LT) (S : Int → Int) (u : SC) (p : Int) (hfl : l.stackTraces = false) (hr : -2147483648 ≤ p ∧ p < 2147483648) (hn : ¬ (2 ≤ p ∧ p ≤ 7)) : MW (U := SC) l yL_begins cL_begins 3 (some .int) [(0, 5, 6, 14)] (rmN 28 1 6) D cA [.ref (A.1), .int (iI p)] [wB cA A c L S u] (fun x9 _ => x9 = -2000001) (fun u => [wB cA A c L S u]) := by
  refine m_startW pn_L rfl (List.forall_mem_cons.mpr ⟨rfl, List.forall_mem_cons.mpr ⟨rfl, fun _ h => absurd h List.not_mem_nil⟩⟩) (Nat.le_of_ble_eq_true rfl) ?_
  intro K C e1 e2 e3 XK hR
  subst e1 e2 e3
  refine j_flat wB_open ?_
  show J K 0 0 [prO A.1 A.2.1 A.2.2.1 A.2.2.2.1 A.2.2.2.2.1 A.2.2.2.2.2.1 A.2.2.2.2.2.2.1 c, svB (kC K) A.2.1 L, rgO A.2.2.2.2.1 (A.2.2.2.2.2.2.2 0) u.2.2.2.2.1, dbO A.2.2.2.2.2.2.2, [(A.2.2.2.2.2.2.2 1, aJ ((kC K) 0) 49 u.1)], [(A.2.2.2.2.2.2.2 2, aJ ((kC K) 0) 49 u.2.1)], [(A.2.2.2.2.2.2.2 3, aJ ((kC K) 0) 40 u.2.2.1)], [(A.2.2.2.2.1 1, aJ ((kC K) 0) 2365 u.2.2.2.1)], [(A.2.2.2.2.1 2, aJ ((kC K) 0) 49 (fun _ => 0))], bk (kC K) A.2.2.1 S, bk (kC K) A.2.2.2.1 iniS, rmO A.2.2.2.2.2.1, [(A.2.2.2.2.2.1 1, aJ ((kC K) 0) 40 u.2.2.2.2.2.1)], [(A.2.2.2.2.2.1 2, aJ ((kC K) 0) 7 u.2.2.2.2.2.2.1)], [(A.2.2.2.2.2.1 3, aJ ((kC K) 0) 7 u.2.2.2.2.2.2.2.1)], [(A.2.2.2.2.2.1 4, aJ ((kC K) 0) 7 u.2.2.2.2.2.2.2.2)], orO A.2.2.2.2.2.2.1 (fun _ => 0), [(A.2.2.2.2.2.2.1 1, aJ ((kC K) 0) 100 (fun _ => 0))]] [some (.ref (A.1)), some (.int (iI p)), none] 0 []
  refine j_aload_n C dL_begins_0 rfl ?_
  refine j_iload_n C dL_begins_1 rfl ?_
  rcases (by trivial : (True)) with q0
  · refine j_perm (pm_18_0 _ _ _ _ _ _ _ _ _ _ _ _ _ _ _ _ _ _) ?_
    refine j_throwV C XK (As := [.int (iI _)]) (c_X5_begin_xA _ _ _ _ _ _ _ _ _ _ (A.2.2.2.2.2.2.2) _ _ (by first | assumption | omega) (by first | assumption | omega) (by first | assumption | omega)) 1 nf_X5_begin (jb := 0) rfl rfl wL_L_8 wI_X5_begin wSe_X5_X5_begin wIn_X5 wC_X5_begin rfl rfl (by decide) dL_begins_2 (Nat.le_of_ble_eq_true rfl) ⟨Nat.le_of_ble_eq_true rfl, Nat.le_of_ble_eq_true rfl⟩ [] ⟨0, 5, 6, 14⟩ [] rfl (fun _ h => absurd h List.not_mem_nil) ex_A (by decide) (by decide) xl_A xc_A rfl (fun u2 x2 h2 => ?_)
    refine j_perm (pr_18_0 _ _ _ _ _ _ _ _ _ _ _ _ _ _ _ _ _ _) ?_
    refine j_astn_2 C dL_begins_6 rfl ?_
    refine j_ldc C (-2000001) (by decide) wN_L_16 dL_begins_7 ?_
    refine j_flat wB_close ?_
    refine hR (u.1, u.2.1, u.2.2.1, u.2.2.2.1, u.2.2.2.2.1, u.2.2.2.2.2) dL_begins_9 ?_ rfl (Nat.le_of_ble_eq_true rfl) (Nat.le_of_ble_eq_true rfl)
    rfl
set_option maxHeartbeats 1600000 in
set_option maxRecDepth 100000 in
theorem c_L_promises_xB (l : Launch) (D : va_G) (cA : Nat → ClassId) (A : AT) (c : Int) (L : LT) (S : Int → Int) (u : SC) (f t x y : Int) (hfl : l.stackTraces = false) (hI : Inv S) (ha : -2147483648 ≤ f ∧ f < 2147483648) (he : -2147483648 ≤ t ∧ t < 2147483648) (hn : ¬ ((0 ≤ f ∧ f < S 0) ∧ 0 ≤ t ∧ t < S 0)) : MW (U := SC) l yL_promises cL_promises 6 (some .int) [(0, 9, 10, 21), (0, 9, 15, 14), (0, 9, 20, 24)] (rmN 28 1 6) D cA [.ref (A.1), .int (iI f), .int (iI t), .int (iI x), .int (iI y)] [wB cA A c L S u] (fun x9 _ => x9 = -2000001) (fun u => [wB cA A c L S u]) := by
  refine m_startW pn_L rfl (List.forall_mem_cons.mpr ⟨rfl, List.forall_mem_cons.mpr ⟨rfl, List.forall_mem_cons.mpr ⟨rfl, List.forall_mem_cons.mpr ⟨rfl, List.forall_mem_cons.mpr ⟨rfl, fun _ h => absurd h List.not_mem_nil⟩⟩⟩⟩⟩) (Nat.le_of_ble_eq_true rfl) ?_
  intro K C e1 e2 e3 XK hR
  subst e1 e2 e3
  have hN := hI.2.1
  have hQ := hI.1
  refine j_flat wB_open ?_
  show J K 0 0 [prO A.1 A.2.1 A.2.2.1 A.2.2.2.1 A.2.2.2.2.1 A.2.2.2.2.2.1 A.2.2.2.2.2.2.1 c, svB (kC K) A.2.1 L, rgO A.2.2.2.2.1 (A.2.2.2.2.2.2.2 0) u.2.2.2.2.1, dbO A.2.2.2.2.2.2.2, [(A.2.2.2.2.2.2.2 1, aJ ((kC K) 0) 49 u.1)], [(A.2.2.2.2.2.2.2 2, aJ ((kC K) 0) 49 u.2.1)], [(A.2.2.2.2.2.2.2 3, aJ ((kC K) 0) 40 u.2.2.1)], [(A.2.2.2.2.1 1, aJ ((kC K) 0) 2365 u.2.2.2.1)], [(A.2.2.2.2.1 2, aJ ((kC K) 0) 49 (fun _ => 0))], bk (kC K) A.2.2.1 S, bk (kC K) A.2.2.2.1 iniS, rmO A.2.2.2.2.2.1, [(A.2.2.2.2.2.1 1, aJ ((kC K) 0) 40 u.2.2.2.2.2.1)], [(A.2.2.2.2.2.1 2, aJ ((kC K) 0) 7 u.2.2.2.2.2.2.1)], [(A.2.2.2.2.2.1 3, aJ ((kC K) 0) 7 u.2.2.2.2.2.2.2.1)], [(A.2.2.2.2.2.1 4, aJ ((kC K) 0) 7 u.2.2.2.2.2.2.2.2)], orO A.2.2.2.2.2.2.1 (fun _ => 0), [(A.2.2.2.2.2.2.1 1, aJ ((kC K) 0) 100 (fun _ => 0))]] [some (.ref (A.1)), some (.int (iI f)), some (.int (iI t)), some (.int (iI x)), some (.int (iI y)), none] 0 []
  refine j_aload_n C dL_promises_0 rfl ?_
  refine j_iload_n C dL_promises_1 rfl ?_
  refine j_iload_n C dL_promises_2 rfl ?_
  refine j_iload_n C dL_promises_3 rfl ?_
  refine j_iload C dL_promises_4 rfl ?_
  rcases (by trivial : (True)) with q0
  · refine j_perm (pm_18_0_9 _ _ _ _ _ _ _ _ _ _ _ _ _ _ _ _ _ _) ?_
    refine j_throwV C XK (As := [.int (iI _), .int (iI _), .int (iI _), .int (iI _)]) (c_X5_promise_xB _ _ _ _ _ _ _ _ _ _ (A.2.2.2.2.2.2.2) _ _ _ _ _ _ (by first | assumption | omega) (by first | assumption | omega) (by first | assumption | omega) (by first | assumption | omega) (by first | assumption | omega)) 4 nf_X5_promise (jb := 0) rfl rfl wL_L_17 wI_X5_promise wSe_X5_X5_promise wIn_X5 wC_X5_promise rfl rfl (by decide) dL_promises_6 (Nat.le_of_ble_eq_true rfl) ⟨Nat.le_of_ble_eq_true rfl, Nat.le_of_ble_eq_true rfl⟩ [] ⟨0, 9, 10, 21⟩ [⟨0, 9, 15, 14⟩, ⟨0, 9, 20, 24⟩] rfl (fun _ h => absurd h List.not_mem_nil) ex_B (by decide) (by decide) xl_B xc_B rfl (fun u6 x6 h6 => ?_)
    refine j_perm (pr_18_0_9 _ _ _ _ _ _ _ _ _ _ _ _ _ _ _ _ _ _) ?_
    refine j_ast_5 C dL_promises_10 rfl ?_
    refine j_ldc C (-2000001) (by decide) wN_L_16 dL_promises_12 ?_
    refine j_flat wB_close ?_
    refine hR (u.1, u.2.1, u.2.2.1, u.2.2.2.1, u.2.2.2.2.1, u.2.2.2.2.2) dL_promises_14 ?_ rfl (Nat.le_of_ble_eq_true rfl) (Nat.le_of_ble_eq_true rfl)
    rfl
set_option maxHeartbeats 1600000 in
set_option maxRecDepth 100000 in
theorem c_L_promises_xA (l : Launch) (D : va_G) (cA : Nat → ClassId) (A : AT) (c : Int) (L : LT) (S : Int → Int) (u : SC) (f t x y : Int) (hfl : l.stackTraces = false) (hI : Inv S) (ha : 0 ≤ f ∧ f < S 0) (he : 0 ≤ t ∧ t < S 0) (hx : -2147483648 ≤ x ∧ x < 2147483648) (hy : -2147483648 ≤ y ∧ y < 2147483648) (hn : ¬ (1 ≤ x ∧ x ≤ 1000 ∧ 1 ≤ y ∧ y ≤ 9 ∧ f ≠ t)) : MW (U := SC) l yL_promises cL_promises 6 (some .int) [(0, 9, 10, 21), (0, 9, 15, 14), (0, 9, 20, 24)] (rmN 28 1 6) D cA [.ref (A.1), .int (iI f), .int (iI t), .int (iI x), .int (iI y)] [wB cA A c L S u] (fun x9 _ => x9 = -2000002) (fun u => [wB cA A c L S u]) := by
  refine m_startW pn_L rfl (List.forall_mem_cons.mpr ⟨rfl, List.forall_mem_cons.mpr ⟨rfl, List.forall_mem_cons.mpr ⟨rfl, List.forall_mem_cons.mpr ⟨rfl, List.forall_mem_cons.mpr ⟨rfl, fun _ h => absurd h List.not_mem_nil⟩⟩⟩⟩⟩) (Nat.le_of_ble_eq_true rfl) ?_
  intro K C e1 e2 e3 XK hR
  subst e1 e2 e3
  have hN := hI.2.1
  have hQ := hI.1
  refine j_flat wB_open ?_
  show J K 0 0 [prO A.1 A.2.1 A.2.2.1 A.2.2.2.1 A.2.2.2.2.1 A.2.2.2.2.2.1 A.2.2.2.2.2.2.1 c, svB (kC K) A.2.1 L, rgO A.2.2.2.2.1 (A.2.2.2.2.2.2.2 0) u.2.2.2.2.1, dbO A.2.2.2.2.2.2.2, [(A.2.2.2.2.2.2.2 1, aJ ((kC K) 0) 49 u.1)], [(A.2.2.2.2.2.2.2 2, aJ ((kC K) 0) 49 u.2.1)], [(A.2.2.2.2.2.2.2 3, aJ ((kC K) 0) 40 u.2.2.1)], [(A.2.2.2.2.1 1, aJ ((kC K) 0) 2365 u.2.2.2.1)], [(A.2.2.2.2.1 2, aJ ((kC K) 0) 49 (fun _ => 0))], bk (kC K) A.2.2.1 S, bk (kC K) A.2.2.2.1 iniS, rmO A.2.2.2.2.2.1, [(A.2.2.2.2.2.1 1, aJ ((kC K) 0) 40 u.2.2.2.2.2.1)], [(A.2.2.2.2.2.1 2, aJ ((kC K) 0) 7 u.2.2.2.2.2.2.1)], [(A.2.2.2.2.2.1 3, aJ ((kC K) 0) 7 u.2.2.2.2.2.2.2.1)], [(A.2.2.2.2.2.1 4, aJ ((kC K) 0) 7 u.2.2.2.2.2.2.2.2)], orO A.2.2.2.2.2.2.1 (fun _ => 0), [(A.2.2.2.2.2.2.1 1, aJ ((kC K) 0) 100 (fun _ => 0))]] [some (.ref (A.1)), some (.int (iI f)), some (.int (iI t)), some (.int (iI x)), some (.int (iI y)), none] 0 []
  refine j_aload_n C dL_promises_0 rfl ?_
  refine j_iload_n C dL_promises_1 rfl ?_
  refine j_iload_n C dL_promises_2 rfl ?_
  refine j_iload_n C dL_promises_3 rfl ?_
  refine j_iload C dL_promises_4 rfl ?_
  rcases (by trivial : (True)) with q0
  · refine j_perm (pm_18_0_9 _ _ _ _ _ _ _ _ _ _ _ _ _ _ _ _ _ _) ?_
    refine j_throwV C XK (As := [.int (iI _), .int (iI _), .int (iI _), .int (iI _)]) (c_X5_promise_xA _ _ _ _ _ _ _ _ _ _ (A.2.2.2.2.2.2.2) _ _ _ _ _ _ (by first | assumption | omega) (by first | assumption | omega) (by first | assumption | omega) (by first | assumption | omega) (by first | assumption | omega) (by first | assumption | omega) (by first | assumption | omega)) 4 nf_X5_promise (jb := 0) rfl rfl wL_L_17 wI_X5_promise wSe_X5_X5_promise wIn_X5 wC_X5_promise rfl rfl (by decide) dL_promises_6 (Nat.le_of_ble_eq_true rfl) ⟨Nat.le_of_ble_eq_true rfl, Nat.le_of_ble_eq_true rfl⟩ [⟨0, 9, 10, 21⟩] ⟨0, 9, 15, 14⟩ [⟨0, 9, 20, 24⟩] rfl (List.forall_mem_cons.mpr ⟨⟨(by decide), eB, xl_B, ex_B, (by decide +kernel)⟩, fun _ h => absurd h List.not_mem_nil⟩) ex_A (by decide) (by decide) xl_A xc_A rfl (fun u6 x6 h6 => ?_)
    refine j_perm (pr_18_0_9 _ _ _ _ _ _ _ _ _ _ _ _ _ _ _ _ _ _) ?_
    refine j_ast_5 C dL_promises_15 rfl ?_
    refine j_ldc C (-2000002) (by decide) wN_L_23 dL_promises_17 ?_
    refine j_flat wB_close ?_
    refine hR (u.1, u.2.1, u.2.2.1, u.2.2.2.1, u.2.2.2.2.1, u.2.2.2.2.2) dL_promises_19 ?_ rfl (Nat.le_of_ble_eq_true rfl) (Nat.le_of_ble_eq_true rfl)
    rfl
set_option maxHeartbeats 1600000 in
set_option maxRecDepth 100000 in
theorem c_L_pays_xB (l : Launch) (D : va_G) (cA : Nat → ClassId) (A : AT) (c : Int) (L : LT) (S : Int → Int) (u : SC) (i w : Int) (hfl : l.stackTraces = false) (hI : Inv S) (hi : -2147483648 ≤ i ∧ i < 2147483648) (hn : ¬ (0 ≤ i ∧ i < S 1)) : MW (U := SC) l yL_pays cL_pays 4 (some .int) [(0, 6, 7, 21), (0, 6, 11, 14), (0, 6, 15, 24)] (rmN 28 1 6) D cA [.ref (A.1), .int (iI i), .int (iI w)] [wB cA A c L S u] (fun x9 _ => x9 = -2000001) (fun u => [wB cA A c L S u]) := by
  refine m_startW pn_L rfl (List.forall_mem_cons.mpr ⟨rfl, List.forall_mem_cons.mpr ⟨rfl, List.forall_mem_cons.mpr ⟨rfl, fun _ h => absurd h List.not_mem_nil⟩⟩⟩) (Nat.le_of_ble_eq_true rfl) ?_
  intro K C e1 e2 e3 XK hR
  subst e1 e2 e3
  have hN := hI.2.1
  have hQ := hI.1
  refine j_flat wB_open ?_
  show J K 0 0 [prO A.1 A.2.1 A.2.2.1 A.2.2.2.1 A.2.2.2.2.1 A.2.2.2.2.2.1 A.2.2.2.2.2.2.1 c, svB (kC K) A.2.1 L, rgO A.2.2.2.2.1 (A.2.2.2.2.2.2.2 0) u.2.2.2.2.1, dbO A.2.2.2.2.2.2.2, [(A.2.2.2.2.2.2.2 1, aJ ((kC K) 0) 49 u.1)], [(A.2.2.2.2.2.2.2 2, aJ ((kC K) 0) 49 u.2.1)], [(A.2.2.2.2.2.2.2 3, aJ ((kC K) 0) 40 u.2.2.1)], [(A.2.2.2.2.1 1, aJ ((kC K) 0) 2365 u.2.2.2.1)], [(A.2.2.2.2.1 2, aJ ((kC K) 0) 49 (fun _ => 0))], bk (kC K) A.2.2.1 S, bk (kC K) A.2.2.2.1 iniS, rmO A.2.2.2.2.2.1, [(A.2.2.2.2.2.1 1, aJ ((kC K) 0) 40 u.2.2.2.2.2.1)], [(A.2.2.2.2.2.1 2, aJ ((kC K) 0) 7 u.2.2.2.2.2.2.1)], [(A.2.2.2.2.2.1 3, aJ ((kC K) 0) 7 u.2.2.2.2.2.2.2.1)], [(A.2.2.2.2.2.1 4, aJ ((kC K) 0) 7 u.2.2.2.2.2.2.2.2)], orO A.2.2.2.2.2.2.1 (fun _ => 0), [(A.2.2.2.2.2.2.1 1, aJ ((kC K) 0) 100 (fun _ => 0))]] [some (.ref (A.1)), some (.int (iI i)), some (.int (iI w)), none] 0 []
  refine j_aload_n C dL_pays_0 rfl ?_
  refine j_iload_n C dL_pays_1 rfl ?_
  refine j_iload_n C dL_pays_2 rfl ?_
  rcases (by trivial : (True)) with q0
  · refine j_perm (pm_18_0_9 _ _ _ _ _ _ _ _ _ _ _ _ _ _ _ _ _ _) ?_
    refine j_throwV C XK (As := [.int (iI _), .int (iI _)]) (c_X5_pay_xB _ _ _ _ _ _ _ _ _ _ (A.2.2.2.2.2.2.2) _ _ _ _ (by first | assumption | omega) (by first | assumption | omega) (by first | assumption | omega) (by first | assumption | omega)) 2 nf_X5_pay (jb := 0) rfl rfl wL_L_27 wI_X5_pay wSe_X5_X5_pay wIn_X5 wC_X5_pay rfl rfl (by decide) dL_pays_3 (Nat.le_of_ble_eq_true rfl) ⟨Nat.le_of_ble_eq_true rfl, Nat.le_of_ble_eq_true rfl⟩ [] ⟨0, 6, 7, 21⟩ [⟨0, 6, 11, 14⟩, ⟨0, 6, 15, 24⟩] rfl (fun _ h => absurd h List.not_mem_nil) ex_B (by decide) (by decide) xl_B xc_B rfl (fun u3 x3 h3 => ?_)
    refine j_perm (pr_18_0_9 _ _ _ _ _ _ _ _ _ _ _ _ _ _ _ _ _ _) ?_
    refine j_astn_3 C dL_pays_7 rfl ?_
    refine j_ldc C (-2000001) (by decide) wN_L_16 dL_pays_8 ?_
    refine j_flat wB_close ?_
    refine hR (u.1, u.2.1, u.2.2.1, u.2.2.2.1, u.2.2.2.2.1, u.2.2.2.2.2) dL_pays_10 ?_ rfl (Nat.le_of_ble_eq_true rfl) (Nat.le_of_ble_eq_true rfl)
    rfl
set_option maxHeartbeats 1600000 in
set_option maxRecDepth 100000 in
theorem c_L_pays_xA (l : Launch) (D : va_G) (cA : Nat → ClassId) (A : AT) (c : Int) (L : LT) (S : Int → Int) (u : SC) (i w : Int) (hfl : l.stackTraces = false) (hI : Inv S) (hi : 0 ≤ i ∧ i < S 1) (ha : -2147483648 ≤ w ∧ w < 2147483648) (hn : w < 1) : MW (U := SC) l yL_pays cL_pays 4 (some .int) [(0, 6, 7, 21), (0, 6, 11, 14), (0, 6, 15, 24)] (rmN 28 1 6) D cA [.ref (A.1), .int (iI i), .int (iI w)] [wB cA A c L S u] (fun x9 _ => x9 = -2000002) (fun u => [wB cA A c L S u]) := by
  refine m_startW pn_L rfl (List.forall_mem_cons.mpr ⟨rfl, List.forall_mem_cons.mpr ⟨rfl, List.forall_mem_cons.mpr ⟨rfl, fun _ h => absurd h List.not_mem_nil⟩⟩⟩) (Nat.le_of_ble_eq_true rfl) ?_
  intro K C e1 e2 e3 XK hR
  subst e1 e2 e3
  have hN := hI.2.1
  have hQ := hI.1
  refine j_flat wB_open ?_
  show J K 0 0 [prO A.1 A.2.1 A.2.2.1 A.2.2.2.1 A.2.2.2.2.1 A.2.2.2.2.2.1 A.2.2.2.2.2.2.1 c, svB (kC K) A.2.1 L, rgO A.2.2.2.2.1 (A.2.2.2.2.2.2.2 0) u.2.2.2.2.1, dbO A.2.2.2.2.2.2.2, [(A.2.2.2.2.2.2.2 1, aJ ((kC K) 0) 49 u.1)], [(A.2.2.2.2.2.2.2 2, aJ ((kC K) 0) 49 u.2.1)], [(A.2.2.2.2.2.2.2 3, aJ ((kC K) 0) 40 u.2.2.1)], [(A.2.2.2.2.1 1, aJ ((kC K) 0) 2365 u.2.2.2.1)], [(A.2.2.2.2.1 2, aJ ((kC K) 0) 49 (fun _ => 0))], bk (kC K) A.2.2.1 S, bk (kC K) A.2.2.2.1 iniS, rmO A.2.2.2.2.2.1, [(A.2.2.2.2.2.1 1, aJ ((kC K) 0) 40 u.2.2.2.2.2.1)], [(A.2.2.2.2.2.1 2, aJ ((kC K) 0) 7 u.2.2.2.2.2.2.1)], [(A.2.2.2.2.2.1 3, aJ ((kC K) 0) 7 u.2.2.2.2.2.2.2.1)], [(A.2.2.2.2.2.1 4, aJ ((kC K) 0) 7 u.2.2.2.2.2.2.2.2)], orO A.2.2.2.2.2.2.1 (fun _ => 0), [(A.2.2.2.2.2.2.1 1, aJ ((kC K) 0) 100 (fun _ => 0))]] [some (.ref (A.1)), some (.int (iI i)), some (.int (iI w)), none] 0 []
  refine j_aload_n C dL_pays_0 rfl ?_
  refine j_iload_n C dL_pays_1 rfl ?_
  refine j_iload_n C dL_pays_2 rfl ?_
  rcases (by trivial : (True)) with q0
  · refine j_perm (pm_18_0_9 _ _ _ _ _ _ _ _ _ _ _ _ _ _ _ _ _ _) ?_
    refine j_throwV C XK (As := [.int (iI _), .int (iI _)]) (c_X5_pay_xA _ _ _ _ _ _ _ _ _ _ (A.2.2.2.2.2.2.2) _ _ _ _ (by first | assumption | omega) (by first | assumption | omega) (by first | assumption | omega) (by first | assumption | omega) (by first | assumption | omega)) 2 nf_X5_pay (jb := 0) rfl rfl wL_L_27 wI_X5_pay wSe_X5_X5_pay wIn_X5 wC_X5_pay rfl rfl (by decide) dL_pays_3 (Nat.le_of_ble_eq_true rfl) ⟨Nat.le_of_ble_eq_true rfl, Nat.le_of_ble_eq_true rfl⟩ [⟨0, 6, 7, 21⟩] ⟨0, 6, 11, 14⟩ [⟨0, 6, 15, 24⟩] rfl (List.forall_mem_cons.mpr ⟨⟨(by decide), eB, xl_B, ex_B, (by decide +kernel)⟩, fun _ h => absurd h List.not_mem_nil⟩) ex_A (by decide) (by decide) xl_A xc_A rfl (fun u3 x3 h3 => ?_)
    refine j_perm (pr_18_0_9 _ _ _ _ _ _ _ _ _ _ _ _ _ _ _ _ _ _) ?_
    refine j_astn_3 C dL_pays_11 rfl ?_
    refine j_ldc C (-2000002) (by decide) wN_L_23 dL_pays_12 ?_
    refine j_flat wB_close ?_
    refine hR (u.1, u.2.1, u.2.2.1, u.2.2.2.1, u.2.2.2.2.1, u.2.2.2.2.2) dL_pays_14 ?_ rfl (Nat.le_of_ble_eq_true rfl) (Nat.le_of_ble_eq_true rfl)
    rfl
set_option maxHeartbeats 1600000 in
set_option maxRecDepth 100000 in
theorem c_L_pays_xC (l : Launch) (D : va_G) (cA : Nat → ClassId) (A : AT) (c : Int) (L : LT) (S : Int → Int) (u : SC) (i w : Int) (hfl : l.stackTraces = false) (hI : Inv S) (hi : 0 ≤ i ∧ i < S 1) (ha : -2147483648 ≤ w ∧ w < 2147483648) (ha1 : 1 ≤ w) (hn : am S i < w) : MW (U := SC) l yL_pays cL_pays 4 (some .int) [(0, 6, 7, 21), (0, 6, 11, 14), (0, 6, 15, 24)] (rmN 28 1 6) D cA [.ref (A.1), .int (iI i), .int (iI w)] [wB cA A c L S u] (fun x9 _ => x9 = -2000003) (fun u => [wB cA A c L S u]) := by
  refine m_startW pn_L rfl (List.forall_mem_cons.mpr ⟨rfl, List.forall_mem_cons.mpr ⟨rfl, List.forall_mem_cons.mpr ⟨rfl, fun _ h => absurd h List.not_mem_nil⟩⟩⟩) (Nat.le_of_ble_eq_true rfl) ?_
  intro K C e1 e2 e3 XK hR
  subst e1 e2 e3
  have hN := hI.2.1
  have hQ := hI.1
  refine j_flat wB_open ?_
  show J K 0 0 [prO A.1 A.2.1 A.2.2.1 A.2.2.2.1 A.2.2.2.2.1 A.2.2.2.2.2.1 A.2.2.2.2.2.2.1 c, svB (kC K) A.2.1 L, rgO A.2.2.2.2.1 (A.2.2.2.2.2.2.2 0) u.2.2.2.2.1, dbO A.2.2.2.2.2.2.2, [(A.2.2.2.2.2.2.2 1, aJ ((kC K) 0) 49 u.1)], [(A.2.2.2.2.2.2.2 2, aJ ((kC K) 0) 49 u.2.1)], [(A.2.2.2.2.2.2.2 3, aJ ((kC K) 0) 40 u.2.2.1)], [(A.2.2.2.2.1 1, aJ ((kC K) 0) 2365 u.2.2.2.1)], [(A.2.2.2.2.1 2, aJ ((kC K) 0) 49 (fun _ => 0))], bk (kC K) A.2.2.1 S, bk (kC K) A.2.2.2.1 iniS, rmO A.2.2.2.2.2.1, [(A.2.2.2.2.2.1 1, aJ ((kC K) 0) 40 u.2.2.2.2.2.1)], [(A.2.2.2.2.2.1 2, aJ ((kC K) 0) 7 u.2.2.2.2.2.2.1)], [(A.2.2.2.2.2.1 3, aJ ((kC K) 0) 7 u.2.2.2.2.2.2.2.1)], [(A.2.2.2.2.2.1 4, aJ ((kC K) 0) 7 u.2.2.2.2.2.2.2.2)], orO A.2.2.2.2.2.2.1 (fun _ => 0), [(A.2.2.2.2.2.2.1 1, aJ ((kC K) 0) 100 (fun _ => 0))]] [some (.ref (A.1)), some (.int (iI i)), some (.int (iI w)), none] 0 []
  refine j_aload_n C dL_pays_0 rfl ?_
  refine j_iload_n C dL_pays_1 rfl ?_
  refine j_iload_n C dL_pays_2 rfl ?_
  rcases (by trivial : (True)) with q0
  · refine j_perm (pm_18_0_9 _ _ _ _ _ _ _ _ _ _ _ _ _ _ _ _ _ _) ?_
    refine j_throwV C XK (As := [.int (iI _), .int (iI _)]) (c_X5_pay_xC _ _ _ _ _ _ _ _ _ _ (A.2.2.2.2.2.2.2) _ _ _ _ (by first | assumption | omega) (by first | assumption | omega) (by first | assumption | omega) (by first | assumption | omega) (by first | assumption | omega) (by first | assumption | omega)) 2 nf_X5_pay (jb := 0) rfl rfl wL_L_27 wI_X5_pay wSe_X5_X5_pay wIn_X5 wC_X5_pay rfl rfl (by decide) dL_pays_3 (Nat.le_of_ble_eq_true rfl) ⟨Nat.le_of_ble_eq_true rfl, Nat.le_of_ble_eq_true rfl⟩ [⟨0, 6, 7, 21⟩, ⟨0, 6, 11, 14⟩] ⟨0, 6, 15, 24⟩ [] rfl (List.forall_mem_cons.mpr ⟨⟨(by decide), eB, xl_B, ex_B, (by decide +kernel)⟩, List.forall_mem_cons.mpr ⟨⟨(by decide), eA, xl_A, ex_A, (by decide +kernel)⟩, fun _ h => absurd h List.not_mem_nil⟩⟩) ex_C (by decide) (by decide) xl_C xc_C rfl (fun u3 x3 h3 => ?_)
    refine j_perm (pr_18_0_9 _ _ _ _ _ _ _ _ _ _ _ _ _ _ _ _ _ _) ?_
    refine j_astn_3 C dL_pays_15 rfl ?_
    refine j_ldc C (-2000003) (by decide) wN_L_26 dL_pays_16 ?_
    refine j_flat wB_close ?_
    refine hR (u.1, u.2.1, u.2.2.1, u.2.2.2.1, u.2.2.2.2.1, u.2.2.2.2.2) dL_pays_18 ?_ rfl (Nat.le_of_ble_eq_true rfl) (Nat.le_of_ble_eq_true rfl)
    rfl
set_option maxHeartbeats 1600000 in
set_option maxRecDepth 100000 in
theorem c_L_disputes_xC (l : Launch) (D : va_G) (cA : Nat → ClassId) (A : AT) (c : Int) (L : LT) (S : Int → Int) (u : SC) (i : Int) (hfl : l.stackTraces = false) (hI : Inv S) (hi : 0 ≤ i ∧ i < S 1) (hn : ¬ (0 < am S i ∧ di S i = 0)) : MW (U := SC) l yL_disputes cL_disputes 3 (some .int) [(0, 5, 6, 21), (0, 5, 10, 24)] (rmN 28 1 6) D cA [.ref (A.1), .int (iI i)] [wB cA A c L S u] (fun x9 _ => x9 = -2000002) (fun u => [wB cA A c L S u]) := by
  refine m_startW pn_L rfl (List.forall_mem_cons.mpr ⟨rfl, List.forall_mem_cons.mpr ⟨rfl, fun _ h => absurd h List.not_mem_nil⟩⟩) (Nat.le_of_ble_eq_true rfl) ?_
  intro K C e1 e2 e3 XK hR
  subst e1 e2 e3
  have hN := hI.2.1
  have hQ := hI.1
  refine j_flat wB_open ?_
  show J K 0 0 [prO A.1 A.2.1 A.2.2.1 A.2.2.2.1 A.2.2.2.2.1 A.2.2.2.2.2.1 A.2.2.2.2.2.2.1 c, svB (kC K) A.2.1 L, rgO A.2.2.2.2.1 (A.2.2.2.2.2.2.2 0) u.2.2.2.2.1, dbO A.2.2.2.2.2.2.2, [(A.2.2.2.2.2.2.2 1, aJ ((kC K) 0) 49 u.1)], [(A.2.2.2.2.2.2.2 2, aJ ((kC K) 0) 49 u.2.1)], [(A.2.2.2.2.2.2.2 3, aJ ((kC K) 0) 40 u.2.2.1)], [(A.2.2.2.2.1 1, aJ ((kC K) 0) 2365 u.2.2.2.1)], [(A.2.2.2.2.1 2, aJ ((kC K) 0) 49 (fun _ => 0))], bk (kC K) A.2.2.1 S, bk (kC K) A.2.2.2.1 iniS, rmO A.2.2.2.2.2.1, [(A.2.2.2.2.2.1 1, aJ ((kC K) 0) 40 u.2.2.2.2.2.1)], [(A.2.2.2.2.2.1 2, aJ ((kC K) 0) 7 u.2.2.2.2.2.2.1)], [(A.2.2.2.2.2.1 3, aJ ((kC K) 0) 7 u.2.2.2.2.2.2.2.1)], [(A.2.2.2.2.2.1 4, aJ ((kC K) 0) 7 u.2.2.2.2.2.2.2.2)], orO A.2.2.2.2.2.2.1 (fun _ => 0), [(A.2.2.2.2.2.2.1 1, aJ ((kC K) 0) 100 (fun _ => 0))]] [some (.ref (A.1)), some (.int (iI i)), none] 0 []
  refine j_aload_n C dL_disputes_0 rfl ?_
  refine j_iload_n C dL_disputes_1 rfl ?_
  rcases (by trivial : (True)) with q0
  · refine j_perm (pm_18_0_9 _ _ _ _ _ _ _ _ _ _ _ _ _ _ _ _ _ _) ?_
    refine j_throwV C XK (As := [.int (iI _)]) (c_X5_dispute_xC _ _ _ _ _ _ _ _ _ _ (A.2.2.2.2.2.2.2) _ _ _ (by first | assumption | omega) (by first | assumption | omega) (by first | assumption | omega) (by first | assumption | omega)) 1 nf_X5_dispute (jb := 0) rfl rfl wL_L_31 wI_X5_dispute wSe_X5_X5_dispute wIn_X5 wC_X5_dispute rfl rfl (by decide) dL_disputes_2 (Nat.le_of_ble_eq_true rfl) ⟨Nat.le_of_ble_eq_true rfl, Nat.le_of_ble_eq_true rfl⟩ [⟨0, 5, 6, 21⟩] ⟨0, 5, 10, 24⟩ [] rfl (List.forall_mem_cons.mpr ⟨⟨(by decide), eB, xl_B, ex_B, (by decide +kernel)⟩, fun _ h => absurd h List.not_mem_nil⟩) ex_C (by decide) (by decide) xl_C xc_C rfl (fun u2 x2 h2 => ?_)
    refine j_perm (pr_18_0_9 _ _ _ _ _ _ _ _ _ _ _ _ _ _ _ _ _ _) ?_
    refine j_astn_2 C dL_disputes_10 rfl ?_
    refine j_ldc C (-2000002) (by decide) wN_L_23 dL_disputes_11 ?_
    refine j_flat wB_close ?_
    refine hR (u.1, u.2.1, u.2.2.1, u.2.2.2.1, u.2.2.2.2.1, u.2.2.2.2.2) dL_disputes_13 ?_ rfl (Nat.le_of_ble_eq_true rfl) (Nat.le_of_ble_eq_true rfl)
    rfl
set_option maxHeartbeats 1600000 in
set_option maxRecDepth 100000 in
theorem c_L_settles_xC (l : Launch) (D : va_G) (cA : Nat → ClassId) (A : AT) (c : Int) (L : LT) (S : Int → Int) (u : SC) (i : Int) (hfl : l.stackTraces = false) (hI : Inv S) (hi : 0 ≤ i ∧ i < S 1) (hn : di S i = 0) : MW (U := SC) l yL_settles cL_settles 3 (some .int) [(0, 5, 6, 21), (0, 5, 10, 24)] (rmN 28 1 6) D cA [.ref (A.1), .int (iI i)] [wB cA A c L S u] (fun x9 _ => x9 = -2000002) (fun u => [wB cA A c L S u]) := by
  refine m_startW pn_L rfl (List.forall_mem_cons.mpr ⟨rfl, List.forall_mem_cons.mpr ⟨rfl, fun _ h => absurd h List.not_mem_nil⟩⟩) (Nat.le_of_ble_eq_true rfl) ?_
  intro K C e1 e2 e3 XK hR
  subst e1 e2 e3
  have hN := hI.2.1
  have hQ := hI.1
  refine j_flat wB_open ?_
  show J K 0 0 [prO A.1 A.2.1 A.2.2.1 A.2.2.2.1 A.2.2.2.2.1 A.2.2.2.2.2.1 A.2.2.2.2.2.2.1 c, svB (kC K) A.2.1 L, rgO A.2.2.2.2.1 (A.2.2.2.2.2.2.2 0) u.2.2.2.2.1, dbO A.2.2.2.2.2.2.2, [(A.2.2.2.2.2.2.2 1, aJ ((kC K) 0) 49 u.1)], [(A.2.2.2.2.2.2.2 2, aJ ((kC K) 0) 49 u.2.1)], [(A.2.2.2.2.2.2.2 3, aJ ((kC K) 0) 40 u.2.2.1)], [(A.2.2.2.2.1 1, aJ ((kC K) 0) 2365 u.2.2.2.1)], [(A.2.2.2.2.1 2, aJ ((kC K) 0) 49 (fun _ => 0))], bk (kC K) A.2.2.1 S, bk (kC K) A.2.2.2.1 iniS, rmO A.2.2.2.2.2.1, [(A.2.2.2.2.2.1 1, aJ ((kC K) 0) 40 u.2.2.2.2.2.1)], [(A.2.2.2.2.2.1 2, aJ ((kC K) 0) 7 u.2.2.2.2.2.2.1)], [(A.2.2.2.2.2.1 3, aJ ((kC K) 0) 7 u.2.2.2.2.2.2.2.1)], [(A.2.2.2.2.2.1 4, aJ ((kC K) 0) 7 u.2.2.2.2.2.2.2.2)], orO A.2.2.2.2.2.2.1 (fun _ => 0), [(A.2.2.2.2.2.2.1 1, aJ ((kC K) 0) 100 (fun _ => 0))]] [some (.ref (A.1)), some (.int (iI i)), none] 0 []
  refine j_aload_n C dL_settles_0 rfl ?_
  refine j_iload_n C dL_settles_1 rfl ?_
  rcases (by trivial : (True)) with q0
  · refine j_perm (pm_18_0_9 _ _ _ _ _ _ _ _ _ _ _ _ _ _ _ _ _ _) ?_
    refine j_throwV C XK (As := [.int (iI _)]) (c_X5_settle_xC _ _ _ _ _ _ _ _ _ _ (A.2.2.2.2.2.2.2) _ _ _ (by first | assumption | omega) (by first | assumption | omega) (by first | assumption | omega) (by first | assumption | omega)) 1 nf_X5_settle (jb := 0) rfl rfl wL_L_34 wI_X5_settle wSe_X5_X5_settle wIn_X5 wC_X5_settle rfl rfl (by decide) dL_settles_2 (Nat.le_of_ble_eq_true rfl) ⟨Nat.le_of_ble_eq_true rfl, Nat.le_of_ble_eq_true rfl⟩ [⟨0, 5, 6, 21⟩] ⟨0, 5, 10, 24⟩ [] rfl (List.forall_mem_cons.mpr ⟨⟨(by decide), eB, xl_B, ex_B, (by decide +kernel)⟩, fun _ h => absurd h List.not_mem_nil⟩) ex_C (by decide) (by decide) xl_C xc_C rfl (fun u2 x2 h2 => ?_)
    refine j_perm (pr_18_0_9 _ _ _ _ _ _ _ _ _ _ _ _ _ _ _ _ _ _) ?_
    refine j_astn_2 C dL_settles_10 rfl ?_
    refine j_ldc C (-2000002) (by decide) wN_L_23 dL_settles_11 ?_
    refine j_flat wB_close ?_
    refine hR (u.1, u.2.1, u.2.2.1, u.2.2.2.1, u.2.2.2.2.1, u.2.2.2.2.2) dL_settles_13 ?_ rfl (Nat.le_of_ble_eq_true rfl) (Nat.le_of_ble_eq_true rfl)
    rfl
set_option maxHeartbeats 1600000 in
set_option maxRecDepth 100000 in
theorem c_L_discharges_xB (l : Launch) (D : va_G) (cA : Nat → ClassId) (A : AT) (c : Int) (L : LT) (S : Int → Int) (u : SC) (j w : Int) (hfl : l.stackTraces = false) (hI : Inv S) (hj : -2147483648 ≤ j ∧ j < 2147483648) (hn : ¬ (0 ≤ j ∧ j < ((RS S).length : Int))) : MW (U := SC) l yL_discharges cL_discharges 4 (some .int) [(0, 6, 7, 21), (0, 6, 11, 14), (0, 6, 15, 24)] (rmN 28 1 6) D cA [.ref (A.1), .int (iI j), .int (iI w)] [wB cA A c L S u] (fun x9 _ => x9 = -2000001) (fun u => [wB cA A c L S u]) := by
  refine m_startW pn_L rfl (List.forall_mem_cons.mpr ⟨rfl, List.forall_mem_cons.mpr ⟨rfl, List.forall_mem_cons.mpr ⟨rfl, fun _ h => absurd h List.not_mem_nil⟩⟩⟩) (Nat.le_of_ble_eq_true rfl) ?_
  intro K C e1 e2 e3 XK hR
  subst e1 e2 e3
  have hN := hI.2.1
  have hQ := hI.1
  refine j_flat wB_open ?_
  show J K 0 0 [prO A.1 A.2.1 A.2.2.1 A.2.2.2.1 A.2.2.2.2.1 A.2.2.2.2.2.1 A.2.2.2.2.2.2.1 c, svB (kC K) A.2.1 L, rgO A.2.2.2.2.1 (A.2.2.2.2.2.2.2 0) u.2.2.2.2.1, dbO A.2.2.2.2.2.2.2, [(A.2.2.2.2.2.2.2 1, aJ ((kC K) 0) 49 u.1)], [(A.2.2.2.2.2.2.2 2, aJ ((kC K) 0) 49 u.2.1)], [(A.2.2.2.2.2.2.2 3, aJ ((kC K) 0) 40 u.2.2.1)], [(A.2.2.2.2.1 1, aJ ((kC K) 0) 2365 u.2.2.2.1)], [(A.2.2.2.2.1 2, aJ ((kC K) 0) 49 (fun _ => 0))], bk (kC K) A.2.2.1 S, bk (kC K) A.2.2.2.1 iniS, rmO A.2.2.2.2.2.1, [(A.2.2.2.2.2.1 1, aJ ((kC K) 0) 40 u.2.2.2.2.2.1)], [(A.2.2.2.2.2.1 2, aJ ((kC K) 0) 7 u.2.2.2.2.2.2.1)], [(A.2.2.2.2.2.1 3, aJ ((kC K) 0) 7 u.2.2.2.2.2.2.2.1)], [(A.2.2.2.2.2.1 4, aJ ((kC K) 0) 7 u.2.2.2.2.2.2.2.2)], orO A.2.2.2.2.2.2.1 (fun _ => 0), [(A.2.2.2.2.2.2.1 1, aJ ((kC K) 0) 100 (fun _ => 0))]] [some (.ref (A.1)), some (.int (iI j)), some (.int (iI w)), none] 0 []
  refine j_aload_n C dL_discharges_0 rfl ?_
  refine j_iload_n C dL_discharges_1 rfl ?_
  refine j_iload_n C dL_discharges_2 rfl ?_
  rcases (by trivial : (True)) with q0
  · refine j_perm (pm_18_0_2_3_4_5_6_7_9 _ _ _ _ _ _ _ _ _ _ _ _ _ _ _ _ _ _) ?_
    refine j_throwV C XK (As := [.int (iI _), .int (iI _)]) (c_X5_discharge_xB _ _ _ _ _ _ _ _ _ _ (A.2.2.2.2.2.2.2) _ _ _ _ _ _ _ _ _ (by first | assumption | omega) (by first | assumption | omega) (by first | assumption | omega) (by first | assumption | omega)) 2 nf_X5_discharge (jb := 0) rfl rfl wL_L_37 wI_X5_discharge wSe_X5_X5_discharge wIn_X5 wC_X5_discharge rfl rfl (by decide) dL_discharges_3 (Nat.le_of_ble_eq_true rfl) ⟨Nat.le_of_ble_eq_true rfl, Nat.le_of_ble_eq_true rfl⟩ [] ⟨0, 6, 7, 21⟩ [⟨0, 6, 11, 14⟩, ⟨0, 6, 15, 24⟩] rfl (fun _ h => absurd h List.not_mem_nil) ex_B (by decide) (by decide) xl_B xc_B rfl (fun u3 x3 h3 => ?_)
    refine j_perm (pr_18_0_2_3_4_5_6_7_9 _ _ _ _ _ _ _ _ _ _ _ _ _ _ _ _ _ _) ?_
    refine j_astn_3 C dL_discharges_7 rfl ?_
    refine j_ldc C (-2000001) (by decide) wN_L_16 dL_discharges_8 ?_
    refine j_flat wB_close ?_
    refine hR (u3.1.1, u3.1.2.1, u3.1.2.2.1, u3.1.2.2.2, u3.2, u.2.2.2.2.2) dL_discharges_10 ?_ rfl (Nat.le_of_ble_eq_true rfl) (Nat.le_of_ble_eq_true rfl)
    rfl
set_option maxHeartbeats 1600000 in
set_option maxRecDepth 100000 in
theorem c_L_discharges_xC (l : Launch) (D : va_G) (cA : Nat → ClassId) (A : AT) (c : Int) (L : LT) (S : Int → Int) (u : SC) (j w : Int) (hfl : l.stackTraces = false) (hI : Inv S) (hj : (0 ≤ j ∧ j < ((RS S).length : Int))) (ha : -2147483648 ≤ w ∧ w < 2147483648) (ha1 : 1 ≤ w) (hn : room S ((RS S).getD j.toNat []) < w) : MW (U := SC) l yL_discharges cL_discharges 4 (some .int) [(0, 6, 7, 21), (0, 6, 11, 14), (0, 6, 15, 24)] (rmN 28 1 6) D cA [.ref (A.1), .int (iI j), .int (iI w)] [wB cA A c L S u] (fun x9 _ => x9 = -2000003) (fun u => [wB cA A c L S u]) := by
  refine m_startW pn_L rfl (List.forall_mem_cons.mpr ⟨rfl, List.forall_mem_cons.mpr ⟨rfl, List.forall_mem_cons.mpr ⟨rfl, fun _ h => absurd h List.not_mem_nil⟩⟩⟩) (Nat.le_of_ble_eq_true rfl) ?_
  intro K C e1 e2 e3 XK hR
  subst e1 e2 e3
  have hN := hI.2.1
  have hQ := hI.1
  refine j_flat wB_open ?_
  show J K 0 0 [prO A.1 A.2.1 A.2.2.1 A.2.2.2.1 A.2.2.2.2.1 A.2.2.2.2.2.1 A.2.2.2.2.2.2.1 c, svB (kC K) A.2.1 L, rgO A.2.2.2.2.1 (A.2.2.2.2.2.2.2 0) u.2.2.2.2.1, dbO A.2.2.2.2.2.2.2, [(A.2.2.2.2.2.2.2 1, aJ ((kC K) 0) 49 u.1)], [(A.2.2.2.2.2.2.2 2, aJ ((kC K) 0) 49 u.2.1)], [(A.2.2.2.2.2.2.2 3, aJ ((kC K) 0) 40 u.2.2.1)], [(A.2.2.2.2.1 1, aJ ((kC K) 0) 2365 u.2.2.2.1)], [(A.2.2.2.2.1 2, aJ ((kC K) 0) 49 (fun _ => 0))], bk (kC K) A.2.2.1 S, bk (kC K) A.2.2.2.1 iniS, rmO A.2.2.2.2.2.1, [(A.2.2.2.2.2.1 1, aJ ((kC K) 0) 40 u.2.2.2.2.2.1)], [(A.2.2.2.2.2.1 2, aJ ((kC K) 0) 7 u.2.2.2.2.2.2.1)], [(A.2.2.2.2.2.1 3, aJ ((kC K) 0) 7 u.2.2.2.2.2.2.2.1)], [(A.2.2.2.2.2.1 4, aJ ((kC K) 0) 7 u.2.2.2.2.2.2.2.2)], orO A.2.2.2.2.2.2.1 (fun _ => 0), [(A.2.2.2.2.2.2.1 1, aJ ((kC K) 0) 100 (fun _ => 0))]] [some (.ref (A.1)), some (.int (iI j)), some (.int (iI w)), none] 0 []
  refine j_aload_n C dL_discharges_0 rfl ?_
  refine j_iload_n C dL_discharges_1 rfl ?_
  refine j_iload_n C dL_discharges_2 rfl ?_
  rcases (by trivial : (True)) with q0
  · refine j_perm (pm_18_0_2_3_4_5_6_7_9 _ _ _ _ _ _ _ _ _ _ _ _ _ _ _ _ _ _) ?_
    refine j_throwV C XK (As := [.int (iI _), .int (iI _)]) (c_X5_discharge_xC _ _ _ _ _ _ _ _ _ _ (A.2.2.2.2.2.2.2) _ _ _ _ _ _ _ _ _ (by first | assumption | omega) (by first | assumption | omega) (by first | assumption | omega) (by first | assumption | omega) (by first | assumption | omega) (by first | assumption | omega)) 2 nf_X5_discharge (jb := 0) rfl rfl wL_L_37 wI_X5_discharge wSe_X5_X5_discharge wIn_X5 wC_X5_discharge rfl rfl (by decide) dL_discharges_3 (Nat.le_of_ble_eq_true rfl) ⟨Nat.le_of_ble_eq_true rfl, Nat.le_of_ble_eq_true rfl⟩ [⟨0, 6, 7, 21⟩, ⟨0, 6, 11, 14⟩] ⟨0, 6, 15, 24⟩ [] rfl (List.forall_mem_cons.mpr ⟨⟨(by decide), eB, xl_B, ex_B, (by decide +kernel)⟩, List.forall_mem_cons.mpr ⟨⟨(by decide), eA, xl_A, ex_A, (by decide +kernel)⟩, fun _ h => absurd h List.not_mem_nil⟩⟩) ex_C (by decide) (by decide) xl_C xc_C rfl (fun u3 x3 h3 => ?_)
    refine j_perm (pr_18_0_2_3_4_5_6_7_9 _ _ _ _ _ _ _ _ _ _ _ _ _ _ _ _ _ _) ?_
    refine j_astn_3 C dL_discharges_15 rfl ?_
    refine j_ldc C (-2000003) (by decide) wN_L_26 dL_discharges_16 ?_
    refine j_flat wB_close ?_
    refine hR (u3.1.1, u3.1.2.1, u3.1.2.2.1, u3.1.2.2.2, u3.2, u.2.2.2.2.2) dL_discharges_18 ?_ rfl (Nat.le_of_ble_eq_true rfl) (Nat.le_of_ble_eq_true rfl)
    rfl
set_option maxHeartbeats 1600000 in
set_option maxRecDepth 100000 in
theorem c_L_bests_xC (l : Launch) (D : va_G) (cA : Nat → ClassId) (A : AT) (c : Int) (L : LT) (S : Int → Int) (u : SC) (hfl : l.stackTraces = false) (hI : Inv S) (hn : (RS S).length = 0) : MW (U := SC) l yL_bests cL_bests 2 (some .int) [(0, 4, 5, 24)] (rmN 28 1 6) D cA [.ref (A.1)] [wB cA A c L S u] (fun x9 _ => x9 = -2000001) (fun u => [wB cA A c L S u]) := by
  refine m_startW pn_L rfl (List.forall_mem_cons.mpr ⟨rfl, fun _ h => absurd h List.not_mem_nil⟩) (Nat.le_of_ble_eq_true rfl) ?_
  intro K C e1 e2 e3 XK hR
  subst e1 e2 e3
  have hN := hI.2.1
  have hQ := hI.1
  refine j_flat wB_open ?_
  show J K 0 0 [prO A.1 A.2.1 A.2.2.1 A.2.2.2.1 A.2.2.2.2.1 A.2.2.2.2.2.1 A.2.2.2.2.2.2.1 c, svB (kC K) A.2.1 L, rgO A.2.2.2.2.1 (A.2.2.2.2.2.2.2 0) u.2.2.2.2.1, dbO A.2.2.2.2.2.2.2, [(A.2.2.2.2.2.2.2 1, aJ ((kC K) 0) 49 u.1)], [(A.2.2.2.2.2.2.2 2, aJ ((kC K) 0) 49 u.2.1)], [(A.2.2.2.2.2.2.2 3, aJ ((kC K) 0) 40 u.2.2.1)], [(A.2.2.2.2.1 1, aJ ((kC K) 0) 2365 u.2.2.2.1)], [(A.2.2.2.2.1 2, aJ ((kC K) 0) 49 (fun _ => 0))], bk (kC K) A.2.2.1 S, bk (kC K) A.2.2.2.1 iniS, rmO A.2.2.2.2.2.1, [(A.2.2.2.2.2.1 1, aJ ((kC K) 0) 40 u.2.2.2.2.2.1)], [(A.2.2.2.2.2.1 2, aJ ((kC K) 0) 7 u.2.2.2.2.2.2.1)], [(A.2.2.2.2.2.1 3, aJ ((kC K) 0) 7 u.2.2.2.2.2.2.2.1)], [(A.2.2.2.2.2.1 4, aJ ((kC K) 0) 7 u.2.2.2.2.2.2.2.2)], orO A.2.2.2.2.2.2.1 (fun _ => 0), [(A.2.2.2.2.2.2.1 1, aJ ((kC K) 0) 100 (fun _ => 0))]] [some (.ref (A.1)), none] 0 []
  refine j_aload_n C dL_bests_0 rfl ?_
  rcases (by trivial : (True)) with q0
  · refine j_perm (pm_18_0_2_3_4_5_6_7_9 _ _ _ _ _ _ _ _ _ _ _ _ _ _ _ _ _ _) ?_
    refine j_throwV C XK (As := []) (c_X5_dischargeBest_xC _ _ _ _ _ _ _ _ _ _ (A.2.2.2.2.2.2.2) _ _ _ _ _ _ _ (by first | assumption | omega) (by first | assumption | omega) (by first | assumption | omega)) 0 nf_X5_dischargeBest (jb := 0) rfl rfl wL_L_40 wI_X5_dischargeBest wSe_X5_X5_dischargeBest wIn_X5 wC_X5_dischargeBest rfl rfl (by decide) dL_bests_1 (Nat.le_of_ble_eq_true rfl) ⟨Nat.le_of_ble_eq_true rfl, Nat.le_of_ble_eq_true rfl⟩ [] ⟨0, 4, 5, 24⟩ [] rfl (fun _ h => absurd h List.not_mem_nil) ex_C (by decide) (by decide) xl_C xc_C rfl (fun u1 x1 h1 => ?_)
    refine j_perm (pr_18_0_2_3_4_5_6_7_9 _ _ _ _ _ _ _ _ _ _ _ _ _ _ _ _ _ _) ?_
    refine j_astn_1 C dL_bests_5 rfl ?_
    refine j_ldc C (-2000001) (by decide) wN_L_16 dL_bests_6 ?_
    refine j_flat wB_close ?_
    refine hR (u1.1.1, u1.1.2.1, u1.1.2.2.1, u1.1.2.2.2, u1.2, u.2.2.2.2.2) dL_bests_8 ?_ rfl (Nat.le_of_ble_eq_true rfl) (Nat.le_of_ble_eq_true rfl)
    rfl
set_option maxHeartbeats 1600000 in
set_option maxRecDepth 100000 in
theorem c_L_ring_xB (l : Launch) (D : va_G) (cA : Nat → ClassId) (A : AT) (c : Int) (L : LT) (S : Int → Int) (u : SC) (j k : Int) (hfl : l.stackTraces = false) (hI : Inv S) (hj : -2147483648 ≤ j ∧ j < 2147483648) (hn : ¬ (0 ≤ j ∧ j < ((RS S).length : Int))) : MW (U := SC) l yL_ring cL_ring 4 (some .int) [(0, 6, 7, 21), (0, 6, 11, 14)] (rmN 28 1 6) D cA [.ref (A.1), .int (iI j), .int (iI k)] [wB cA A c L S u] (fun x9 _ => x9 = -2000001) (fun u => [wB cA A c L S u]) := by
  refine m_startW pn_L rfl (List.forall_mem_cons.mpr ⟨rfl, List.forall_mem_cons.mpr ⟨rfl, List.forall_mem_cons.mpr ⟨rfl, fun _ h => absurd h List.not_mem_nil⟩⟩⟩) (Nat.le_of_ble_eq_true rfl) ?_
  intro K C e1 e2 e3 XK hR
  subst e1 e2 e3
  have hN := hI.2.1
  have hQ := hI.1
  refine j_flat wB_open ?_
  show J K 0 0 [prO A.1 A.2.1 A.2.2.1 A.2.2.2.1 A.2.2.2.2.1 A.2.2.2.2.2.1 A.2.2.2.2.2.2.1 c, svB (kC K) A.2.1 L, rgO A.2.2.2.2.1 (A.2.2.2.2.2.2.2 0) u.2.2.2.2.1, dbO A.2.2.2.2.2.2.2, [(A.2.2.2.2.2.2.2 1, aJ ((kC K) 0) 49 u.1)], [(A.2.2.2.2.2.2.2 2, aJ ((kC K) 0) 49 u.2.1)], [(A.2.2.2.2.2.2.2 3, aJ ((kC K) 0) 40 u.2.2.1)], [(A.2.2.2.2.1 1, aJ ((kC K) 0) 2365 u.2.2.2.1)], [(A.2.2.2.2.1 2, aJ ((kC K) 0) 49 (fun _ => 0))], bk (kC K) A.2.2.1 S, bk (kC K) A.2.2.2.1 iniS, rmO A.2.2.2.2.2.1, [(A.2.2.2.2.2.1 1, aJ ((kC K) 0) 40 u.2.2.2.2.2.1)], [(A.2.2.2.2.2.1 2, aJ ((kC K) 0) 7 u.2.2.2.2.2.2.1)], [(A.2.2.2.2.2.1 3, aJ ((kC K) 0) 7 u.2.2.2.2.2.2.2.1)], [(A.2.2.2.2.2.1 4, aJ ((kC K) 0) 7 u.2.2.2.2.2.2.2.2)], orO A.2.2.2.2.2.2.1 (fun _ => 0), [(A.2.2.2.2.2.2.1 1, aJ ((kC K) 0) 100 (fun _ => 0))]] [some (.ref (A.1)), some (.int (iI j)), some (.int (iI k)), none] 0 []
  refine j_aload_n C dL_ring_0 rfl ?_
  refine j_iload_n C dL_ring_1 rfl ?_
  refine j_iload_n C dL_ring_2 rfl ?_
  rcases (by trivial : (True)) with q0
  · refine j_perm (pm_18_0_2_3_4_5_6_7_9 _ _ _ _ _ _ _ _ _ _ _ _ _ _ _ _ _ _) ?_
    refine j_throwV C XK (As := [.int (iI _), .int (iI _)]) (c_X5_ring_xB _ _ _ _ _ _ _ _ _ _ (A.2.2.2.2.2.2.2) _ _ _ _ _ _ _ _ _ (by first | assumption | omega) (by first | assumption | omega) (by first | assumption | omega) (by first | assumption | omega)) 2 nf_X5_ring (jb := 0) rfl rfl wL_L_53 wI_X5_ring wSe_X5_X5_ring wIn_X5 wC_X5_ring rfl rfl (by decide) dL_ring_3 (Nat.le_of_ble_eq_true rfl) ⟨Nat.le_of_ble_eq_true rfl, Nat.le_of_ble_eq_true rfl⟩ [] ⟨0, 6, 7, 21⟩ [⟨0, 6, 11, 14⟩] rfl (fun _ h => absurd h List.not_mem_nil) ex_B (by decide) (by decide) xl_B xc_B rfl (fun u3 x3 h3 => ?_)
    refine j_perm (pr_18_0_2_3_4_5_6_7_9 _ _ _ _ _ _ _ _ _ _ _ _ _ _ _ _ _ _) ?_
    refine j_astn_3 C dL_ring_7 rfl ?_
    refine j_ldc C (-2000001) (by decide) wN_L_16 dL_ring_8 ?_
    refine j_flat wB_close ?_
    refine hR (u3.1.1, u3.1.2.1, u3.1.2.2.1, u3.1.2.2.2, u3.2, u.2.2.2.2.2) dL_ring_10 ?_ rfl (Nat.le_of_ble_eq_true rfl) (Nat.le_of_ble_eq_true rfl)
    rfl
set_option maxHeartbeats 1600000 in
set_option maxRecDepth 100000 in
theorem c_L_ring_xA (l : Launch) (D : va_G) (cA : Nat → ClassId) (A : AT) (c : Int) (L : LT) (S : Int → Int) (u : SC) (j k : Int) (hfl : l.stackTraces = false) (hI : Inv S) (hj : (0 ≤ j ∧ j < ((RS S).length : Int))) (ha : -2147483648 ≤ k ∧ k < 2147483648) (hn : ¬ (0 ≤ k ∧ k < 7)) : MW (U := SC) l yL_ring cL_ring 4 (some .int) [(0, 6, 7, 21), (0, 6, 11, 14)] (rmN 28 1 6) D cA [.ref (A.1), .int (iI j), .int (iI k)] [wB cA A c L S u] (fun x9 _ => x9 = -2000002) (fun u => [wB cA A c L S u]) := by
  refine m_startW pn_L rfl (List.forall_mem_cons.mpr ⟨rfl, List.forall_mem_cons.mpr ⟨rfl, List.forall_mem_cons.mpr ⟨rfl, fun _ h => absurd h List.not_mem_nil⟩⟩⟩) (Nat.le_of_ble_eq_true rfl) ?_
  intro K C e1 e2 e3 XK hR
  subst e1 e2 e3
  have hN := hI.2.1
  have hQ := hI.1
  refine j_flat wB_open ?_
  show J K 0 0 [prO A.1 A.2.1 A.2.2.1 A.2.2.2.1 A.2.2.2.2.1 A.2.2.2.2.2.1 A.2.2.2.2.2.2.1 c, svB (kC K) A.2.1 L, rgO A.2.2.2.2.1 (A.2.2.2.2.2.2.2 0) u.2.2.2.2.1, dbO A.2.2.2.2.2.2.2, [(A.2.2.2.2.2.2.2 1, aJ ((kC K) 0) 49 u.1)], [(A.2.2.2.2.2.2.2 2, aJ ((kC K) 0) 49 u.2.1)], [(A.2.2.2.2.2.2.2 3, aJ ((kC K) 0) 40 u.2.2.1)], [(A.2.2.2.2.1 1, aJ ((kC K) 0) 2365 u.2.2.2.1)], [(A.2.2.2.2.1 2, aJ ((kC K) 0) 49 (fun _ => 0))], bk (kC K) A.2.2.1 S, bk (kC K) A.2.2.2.1 iniS, rmO A.2.2.2.2.2.1, [(A.2.2.2.2.2.1 1, aJ ((kC K) 0) 40 u.2.2.2.2.2.1)], [(A.2.2.2.2.2.1 2, aJ ((kC K) 0) 7 u.2.2.2.2.2.2.1)], [(A.2.2.2.2.2.1 3, aJ ((kC K) 0) 7 u.2.2.2.2.2.2.2.1)], [(A.2.2.2.2.2.1 4, aJ ((kC K) 0) 7 u.2.2.2.2.2.2.2.2)], orO A.2.2.2.2.2.2.1 (fun _ => 0), [(A.2.2.2.2.2.2.1 1, aJ ((kC K) 0) 100 (fun _ => 0))]] [some (.ref (A.1)), some (.int (iI j)), some (.int (iI k)), none] 0 []
  refine j_aload_n C dL_ring_0 rfl ?_
  refine j_iload_n C dL_ring_1 rfl ?_
  refine j_iload_n C dL_ring_2 rfl ?_
  rcases (by trivial : (True)) with q0
  · refine j_perm (pm_18_0_2_3_4_5_6_7_9 _ _ _ _ _ _ _ _ _ _ _ _ _ _ _ _ _ _) ?_
    refine j_throwV C XK (As := [.int (iI _), .int (iI _)]) (c_X5_ring_xA _ _ _ _ _ _ _ _ _ _ (A.2.2.2.2.2.2.2) _ _ _ _ _ _ _ _ _ (by first | assumption | omega) (by first | assumption | omega) (by first | assumption | omega) (by first | assumption | omega) (by first | assumption | omega)) 2 nf_X5_ring (jb := 0) rfl rfl wL_L_53 wI_X5_ring wSe_X5_X5_ring wIn_X5 wC_X5_ring rfl rfl (by decide) dL_ring_3 (Nat.le_of_ble_eq_true rfl) ⟨Nat.le_of_ble_eq_true rfl, Nat.le_of_ble_eq_true rfl⟩ [⟨0, 6, 7, 21⟩] ⟨0, 6, 11, 14⟩ [] rfl (List.forall_mem_cons.mpr ⟨⟨(by decide), eB, xl_B, ex_B, (by decide +kernel)⟩, fun _ h => absurd h List.not_mem_nil⟩) ex_A (by decide) (by decide) xl_A xc_A rfl (fun u3 x3 h3 => ?_)
    refine j_perm (pr_18_0_2_3_4_5_6_7_9 _ _ _ _ _ _ _ _ _ _ _ _ _ _ _ _ _ _) ?_
    refine j_astn_3 C dL_ring_11 rfl ?_
    refine j_ldc C (-2000002) (by decide) wN_L_23 dL_ring_12 ?_
    refine j_flat wB_close ?_
    refine hR (u3.1.1, u3.1.2.1, u3.1.2.2.1, u3.1.2.2.2, u3.2, u.2.2.2.2.2) dL_ring_14 ?_ rfl (Nat.le_of_ble_eq_true rfl) (Nat.le_of_ble_eq_true rfl)
    rfl
set_option maxHeartbeats 1600000 in
set_option maxRecDepth 100000 in
theorem c_L_room_xB (l : Launch) (D : va_G) (cA : Nat → ClassId) (A : AT) (c : Int) (L : LT) (S : Int → Int) (u : SC) (j : Int) (hfl : l.stackTraces = false) (hI : Inv S) (hj : -2147483648 ≤ j ∧ j < 2147483648) (hn : ¬ (0 ≤ j ∧ j < ((RS S).length : Int))) : MW (U := SC) l yL_room cL_room 3 (some .int) [(0, 5, 6, 21)] (rmN 28 1 6) D cA [.ref (A.1), .int (iI j)] [wB cA A c L S u] (fun x9 _ => x9 = -2000001) (fun u => [wB cA A c L S u]) := by
  refine m_startW pn_L rfl (List.forall_mem_cons.mpr ⟨rfl, List.forall_mem_cons.mpr ⟨rfl, fun _ h => absurd h List.not_mem_nil⟩⟩) (Nat.le_of_ble_eq_true rfl) ?_
  intro K C e1 e2 e3 XK hR
  subst e1 e2 e3
  have hN := hI.2.1
  have hQ := hI.1
  refine j_flat wB_open ?_
  show J K 0 0 [prO A.1 A.2.1 A.2.2.1 A.2.2.2.1 A.2.2.2.2.1 A.2.2.2.2.2.1 A.2.2.2.2.2.2.1 c, svB (kC K) A.2.1 L, rgO A.2.2.2.2.1 (A.2.2.2.2.2.2.2 0) u.2.2.2.2.1, dbO A.2.2.2.2.2.2.2, [(A.2.2.2.2.2.2.2 1, aJ ((kC K) 0) 49 u.1)], [(A.2.2.2.2.2.2.2 2, aJ ((kC K) 0) 49 u.2.1)], [(A.2.2.2.2.2.2.2 3, aJ ((kC K) 0) 40 u.2.2.1)], [(A.2.2.2.2.1 1, aJ ((kC K) 0) 2365 u.2.2.2.1)], [(A.2.2.2.2.1 2, aJ ((kC K) 0) 49 (fun _ => 0))], bk (kC K) A.2.2.1 S, bk (kC K) A.2.2.2.1 iniS, rmO A.2.2.2.2.2.1, [(A.2.2.2.2.2.1 1, aJ ((kC K) 0) 40 u.2.2.2.2.2.1)], [(A.2.2.2.2.2.1 2, aJ ((kC K) 0) 7 u.2.2.2.2.2.2.1)], [(A.2.2.2.2.2.1 3, aJ ((kC K) 0) 7 u.2.2.2.2.2.2.2.1)], [(A.2.2.2.2.2.1 4, aJ ((kC K) 0) 7 u.2.2.2.2.2.2.2.2)], orO A.2.2.2.2.2.2.1 (fun _ => 0), [(A.2.2.2.2.2.2.1 1, aJ ((kC K) 0) 100 (fun _ => 0))]] [some (.ref (A.1)), some (.int (iI j)), none] 0 []
  refine j_aload_n C dL_room_0 rfl ?_
  refine j_iload_n C dL_room_1 rfl ?_
  rcases (by trivial : (True)) with q0
  · refine j_perm (pm_18_0_2_3_4_5_6_7_9 _ _ _ _ _ _ _ _ _ _ _ _ _ _ _ _ _ _) ?_
    refine j_throwV C XK (As := [.int (iI _)]) (c_X5_room_xB _ _ _ _ _ _ _ _ _ _ (A.2.2.2.2.2.2.2) _ _ _ _ _ _ _ _ (by first | assumption | omega) (by first | assumption | omega) (by first | assumption | omega) (by first | assumption | omega)) 1 nf_X5_room (jb := 0) rfl rfl wL_L_56 wI_X5_room wSe_X5_X5_room wIn_X5 wC_X5_room rfl rfl (by decide) dL_room_2 (Nat.le_of_ble_eq_true rfl) ⟨Nat.le_of_ble_eq_true rfl, Nat.le_of_ble_eq_true rfl⟩ [] ⟨0, 5, 6, 21⟩ [] rfl (fun _ h => absurd h List.not_mem_nil) ex_B (by decide) (by decide) xl_B xc_B rfl (fun u2 x2 h2 => ?_)
    refine j_perm (pr_18_0_2_3_4_5_6_7_9 _ _ _ _ _ _ _ _ _ _ _ _ _ _ _ _ _ _) ?_
    refine j_astn_2 C dL_room_6 rfl ?_
    refine j_ldc C (-2000001) (by decide) wN_L_16 dL_room_7 ?_
    refine j_flat wB_close ?_
    refine hR (u2.1.1, u2.1.2.1, u2.1.2.2.1, u2.1.2.2.2, u2.2, u.2.2.2.2.2) dL_room_9 ?_ rfl (Nat.le_of_ble_eq_true rfl) (Nat.le_of_ble_eq_true rfl)
    rfl
set_option maxHeartbeats 1600000 in
set_option maxRecDepth 100000 in
theorem c_L_undoes (l : Launch) (D : va_G) (cA : Nat → ClassId) (A : AT) (c : Int) (L1 L2 : LT) (k : Nat → Nat) (T S : Int → Int) (u : SC) (hz : Inz T) (hc : c = ((L1.length : Nat) : Int) + 1 ∧ c ≤ 4) : MW (U := SC) l yL_undoes cL_undoes 2 (some .int) [(0, 4, 5, 24)] (rmN 28 0 0) D cA [.ref (A.1)] [wB cA A c (L1 ++ (k, T) :: L2) S u] (fun x _ => x = c - 1) (fun u => [wB cA A (c - 1) (L1 ++ (k, T) :: L2) (cpS S T) u]) := by
  refine m_startW pn_L rfl (List.forall_mem_cons.mpr ⟨rfl, fun _ h => absurd h List.not_mem_nil⟩) (Nat.le_of_ble_eq_true rfl) ?_
  intro K C e1 e2 e3 XK hR
  subst e1 e2 e3
  refine j_flat wB_open ?_
  show J K 0 0 [prO A.1 A.2.1 A.2.2.1 A.2.2.2.1 A.2.2.2.2.1 A.2.2.2.2.2.1 A.2.2.2.2.2.2.1 c, svB (kC K) A.2.1 (L1 ++ (k, T) :: L2), rgO A.2.2.2.2.1 (A.2.2.2.2.2.2.2 0) u.2.2.2.2.1, dbO A.2.2.2.2.2.2.2, [(A.2.2.2.2.2.2.2 1, aJ ((kC K) 0) 49 u.1)], [(A.2.2.2.2.2.2.2 2, aJ ((kC K) 0) 49 u.2.1)], [(A.2.2.2.2.2.2.2 3, aJ ((kC K) 0) 40 u.2.2.1)], [(A.2.2.2.2.1 1, aJ ((kC K) 0) 2365 u.2.2.2.1)], [(A.2.2.2.2.1 2, aJ ((kC K) 0) 49 (fun _ => 0))], bk (kC K) A.2.2.1 S, bk (kC K) A.2.2.2.1 iniS, rmO A.2.2.2.2.2.1, [(A.2.2.2.2.2.1 1, aJ ((kC K) 0) 40 u.2.2.2.2.2.1)], [(A.2.2.2.2.2.1 2, aJ ((kC K) 0) 7 u.2.2.2.2.2.2.1)], [(A.2.2.2.2.2.1 3, aJ ((kC K) 0) 7 u.2.2.2.2.2.2.2.1)], [(A.2.2.2.2.2.1 4, aJ ((kC K) 0) 7 u.2.2.2.2.2.2.2.2)], orO A.2.2.2.2.2.2.1 (fun _ => 0), [(A.2.2.2.2.2.2.1 1, aJ ((kC K) 0) 100 (fun _ => 0))]] [some (.ref (A.1)), none] 0 []
  refine j_aload_n C dL_undoes_0 rfl ?_
  refine j_perm (pm_18_0_1_9 _ _ _ _ _ _ _ _ _ _ _ _ _ _ _ _ _ _) ?_
  refine j_callVi C (As := []) (c_X5_undo _ _ _ _ _ _ _ _ _ _ (A.2.2.2.2.2.2.2) _ _ _ _ _ _ (by first | assumption | omega) (by first | assumption | omega)) 0 nf_X5_undo (jb := 0) rfl rfl wL_L_65 wI_X5_undo wSe_X5_X5_undo wIn_X5 wC_X5_undo rfl rfl (by decide) dL_undoes_1 (Nat.le_of_ble_eq_true rfl) ⟨Nat.le_of_ble_eq_true rfl, Nat.le_of_ble_eq_true rfl⟩ (fun x1 u1 h1 => ?_)
  refine j_perm (pr_18_0_1_9 _ _ _ _ _ _ _ _ _ _ _ _ _ _ _ _ _ _) ?_
  refine j_flat wB_close ?_
  exact hR (u.1, u.2.1, u.2.2.1, u.2.2.2.1, u.2.2.2.2.1, u.2.2.2.2.2) dL_undoes_4 (by exact h1) rfl (Nat.le_of_ble_eq_true rfl) (Nat.le_of_ble_eq_true rfl)
