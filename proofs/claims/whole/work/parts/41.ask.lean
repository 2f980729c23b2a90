/-! the class: its object; what is asked and not refused -/
def prO (q v : Nat) (b tb r m o : Nat → Nat) (c : Int) : va_W := [(q, .inr (5, [.ref (b 0), .ref (tb 0), .ref (r 0), .ref (m 0), .ref (o 0), .ref v, .int (iI c)]))]
theorem prO_put {q v : Nat} {b tb r m o : Nat → Nat} {c x : Int} : (prO q v b tb r m o c).set 0 (q, .inr (5, ([.ref (b 0), .ref (tb 0), .ref (r 0), .ref (m 0), .ref (o 0), .ref v, .int (iI c)] : List Value).set 6 (.int (iI x)))) = prO q v b tb r m o x := rfl
def mutS (S : Int → Int) (p : Int) : Int := sumZ (fun k => min (debS S p k) (debS S k p)) (S 0)
def valS (S : Int → Int) (w : Int) : Int := if w = 0 then S 0 else if w = 1 then S 1 else if w = 2 then opnS S else if w = 3 then disS S else if w = 4 then allS S else if w = 5 then cosS S else if w = 6 then ((RS S).length : Int) else if w = 7 then S 2 else if w = 8 then S 3 else if w = 9 then S 4 else gainS S
theorem key_s {S : Int → Int} {n : Nat} {i b m : Int} : key S (n + 1) i b m = if 0 < am S i ∧ di S i = 0 then (if b = -1 ∨ rwO S i < m then key S n (i + 1) i (rwO S i) else key S n (i + 1) b m) else key S n (i + 1) b m := rfl
theorem pm_2_1 (B0 B1 : va_W) : [B0, B1].Perm ([B1] ++ [B0]) := List.perm_middle (l₁ := [B0]) (a := B1) (l₂ := [])
theorem pr_2_1 (B0 B1 : va_W) : ([B1] ++ [B0]).Perm [B0, B1] := (pm_2_1 B0 B1).symm
theorem pm_3_1 (B0 B1 B2 : va_W) : [B0, B1, B2].Perm ([B1] ++ [B0, B2]) := List.perm_middle (l₁ := [B0]) (a := B1) (l₂ := [B2])
theorem pr_3_1 (B0 B1 B2 : va_W) : ([B1] ++ [B0, B2]).Perm [B0, B1, B2] := (pm_3_1 B0 B1 B2).symm
theorem pm_3_1_2 (B0 B1 B2 : va_W) : [B0, B1, B2].Perm ([B1, B2] ++ [B0]) := List.Perm.trans (List.perm_middle (l₁ := [B0]) (a := B1) (l₂ := [B2])) (List.Perm.cons _ (List.perm_middle (l₁ := [B0]) (a := B2) (l₂ := [])))
theorem pr_3_1_2 (B0 B1 B2 : va_W) : ([B1, B2] ++ [B0]).Perm [B0, B1, B2] := (pm_3_1_2 B0 B1 B2).symm
theorem pm_7_1_2_3_4_5_6 (B0 B1 B2 B3 B4 B5 B6 : va_W) : [B0, B1, B2, B3, B4, B5, B6].Perm ([B1, B2, B3, B4, B5, B6] ++ [B0]) := List.Perm.trans (List.perm_middle (l₁ := [B0]) (a := B1) (l₂ := [B2, B3, B4, B5, B6])) (List.Perm.trans (List.Perm.cons _ (List.perm_middle (l₁ := [B0]) (a := B2) (l₂ := [B3, B4, B5, B6]))) (List.Perm.trans (List.Perm.cons _ (List.Perm.cons _ (List.perm_middle (l₁ := [B0]) (a := B3) (l₂ := [B4, B5, B6])))) (List.Perm.trans (List.Perm.cons _ (List.Perm.cons _ (List.Perm.cons _ (List.perm_middle (l₁ := [B0]) (a := B4) (l₂ := [B5, B6]))))) (List.Perm.trans (List.Perm.cons _ (List.Perm.cons _ (List.Perm.cons _ (List.Perm.cons _ (List.perm_middle (l₁ := [B0]) (a := B5) (l₂ := [B6])))))) (List.Perm.cons _ (List.Perm.cons _ (List.Perm.cons _ (List.Perm.cons _ (List.Perm.cons _ (List.perm_middle (l₁ := [B0]) (a := B6) (l₂ := [])))))))))))
theorem pr_7_1_2_3_4_5_6 (B0 B1 B2 B3 B4 B5 B6 : va_W) : ([B1, B2, B3, B4, B5, B6] ++ [B0]).Perm [B0, B1, B2, B3, B4, B5, B6] := (pm_7_1_2_3_4_5_6 B0 B1 B2 B3 B4 B5 B6).symm
theorem pm_8_0_1_2_3_4_5_6_7 (B0 B1 B2 B3 B4 B5 B6 B7 : va_W) : [B0, B1, B2, B3, B4, B5, B6, B7].Perm ([B0, B1, B2, B3, B4, B5, B6, B7] ++ []) := List.Perm.trans (List.Perm.refl _) (List.Perm.trans (List.Perm.cons _ (List.Perm.refl _)) (List.Perm.trans (List.Perm.cons _ (List.Perm.cons _ (List.Perm.refl _))) (List.Perm.trans (List.Perm.cons _ (List.Perm.cons _ (List.Perm.cons _ (List.Perm.refl _)))) (List.Perm.trans (List.Perm.cons _ (List.Perm.cons _ (List.Perm.cons _ (List.Perm.cons _ (List.Perm.refl _))))) (List.Perm.trans (List.Perm.cons _ (List.Perm.cons _ (List.Perm.cons _ (List.Perm.cons _ (List.Perm.cons _ (List.Perm.refl _)))))) (List.Perm.trans (List.Perm.cons _ (List.Perm.cons _ (List.Perm.cons _ (List.Perm.cons _ (List.Perm.cons _ (List.Perm.cons _ (List.Perm.refl _))))))) (List.Perm.cons _ (List.Perm.cons _ (List.Perm.cons _ (List.Perm.cons _ (List.Perm.cons _ (List.Perm.cons _ (List.Perm.cons _ (List.Perm.refl _))))))))))))))
theorem pr_8_0_1_2_3_4_5_6_7 (B0 B1 B2 B3 B4 B5 B6 B7 : va_W) : ([B0, B1, B2, B3, B4, B5, B6, B7] ++ []).Perm [B0, B1, B2, B3, B4, B5, B6, B7] := (pm_8_0_1_2_3_4_5_6_7 B0 B1 B2 B3 B4 B5 B6 B7).symm
theorem pm_8_1_2_3_4_5_6_7 (B0 B1 B2 B3 B4 B5 B6 B7 : va_W) : [B0, B1, B2, B3, B4, B5, B6, B7].Perm ([B1, B2, B3, B4, B5, B6, B7] ++ [B0]) := List.Perm.trans (List.perm_middle (l₁ := [B0]) (a := B1) (l₂ := [B2, B3, B4, B5, B6, B7])) (List.Perm.trans (List.Perm.cons _ (List.perm_middle (l₁ := [B0]) (a := B2) (l₂ := [B3, B4, B5, B6, B7]))) (List.Perm.trans (List.Perm.cons _ (List.Perm.cons _ (List.perm_middle (l₁ := [B0]) (a := B3) (l₂ := [B4, B5, B6, B7])))) (List.Perm.trans (List.Perm.cons _ (List.Perm.cons _ (List.Perm.cons _ (List.perm_middle (l₁ := [B0]) (a := B4) (l₂ := [B5, B6, B7]))))) (List.Perm.trans (List.Perm.cons _ (List.Perm.cons _ (List.Perm.cons _ (List.Perm.cons _ (List.perm_middle (l₁ := [B0]) (a := B5) (l₂ := [B6, B7])))))) (List.Perm.trans (List.Perm.cons _ (List.Perm.cons _ (List.Perm.cons _ (List.Perm.cons _ (List.Perm.cons _ (List.perm_middle (l₁ := [B0]) (a := B6) (l₂ := [B7]))))))) (List.Perm.cons _ (List.Perm.cons _ (List.Perm.cons _ (List.Perm.cons _ (List.Perm.cons _ (List.Perm.cons _ (List.perm_middle (l₁ := [B0]) (a := B7) (l₂ := [])))))))))))))
theorem pr_8_1_2_3_4_5_6_7 (B0 B1 B2 B3 B4 B5 B6 B7 : va_W) : ([B1, B2, B3, B4, B5, B6, B7] ++ [B0]).Perm [B0, B1, B2, B3, B4, B5, B6, B7] := (pm_8_1_2_3_4_5_6_7 B0 B1 B2 B3 B4 B5 B6 B7).symm
theorem pm_8_7 (B0 B1 B2 B3 B4 B5 B6 B7 : va_W) : [B0, B1, B2, B3, B4, B5, B6, B7].Perm ([B7] ++ [B0, B1, B2, B3, B4, B5, B6]) := List.perm_middle (l₁ := [B0, B1, B2, B3, B4, B5, B6]) (a := B7) (l₂ := [])
theorem pr_8_7 (B0 B1 B2 B3 B4 B5 B6 B7 : va_W) : ([B7] ++ [B0, B1, B2, B3, B4, B5, B6]).Perm [B0, B1, B2, B3, B4, B5, B6, B7] := (pm_8_7 B0 B1 B2 B3 B4 B5 B6 B7).symm
theorem pm_9_1_2_3_4_5_6_8 (B0 B1 B2 B3 B4 B5 B6 B7 B8 : va_W) : [B0, B1, B2, B3, B4, B5, B6, B7, B8].Perm ([B1, B2, B3, B4, B5, B6, B8] ++ [B0, B7]) := List.Perm.trans (List.perm_middle (l₁ := [B0]) (a := B1) (l₂ := [B2, B3, B4, B5, B6, B7, B8])) (List.Perm.trans (List.Perm.cons _ (List.perm_middle (l₁ := [B0]) (a := B2) (l₂ := [B3, B4, B5, B6, B7, B8]))) (List.Perm.trans (List.Perm.cons _ (List.Perm.cons _ (List.perm_middle (l₁ := [B0]) (a := B3) (l₂ := [B4, B5, B6, B7, B8])))) (List.Perm.trans (List.Perm.cons _ (List.Perm.cons _ (List.Perm.cons _ (List.perm_middle (l₁ := [B0]) (a := B4) (l₂ := [B5, B6, B7, B8]))))) (List.Perm.trans (List.Perm.cons _ (List.Perm.cons _ (List.Perm.cons _ (List.Perm.cons _ (List.perm_middle (l₁ := [B0]) (a := B5) (l₂ := [B6, B7, B8])))))) (List.Perm.trans (List.Perm.cons _ (List.Perm.cons _ (List.Perm.cons _ (List.Perm.cons _ (List.Perm.cons _ (List.perm_middle (l₁ := [B0]) (a := B6) (l₂ := [B7, B8]))))))) (List.Perm.cons _ (List.Perm.cons _ (List.Perm.cons _ (List.Perm.cons _ (List.Perm.cons _ (List.Perm.cons _ (List.perm_middle (l₁ := [B0, B7]) (a := B8) (l₂ := [])))))))))))))
theorem pr_9_1_2_3_4_5_6_8 (B0 B1 B2 B3 B4 B5 B6 B7 B8 : va_W) : ([B1, B2, B3, B4, B5, B6, B8] ++ [B0, B7]).Perm [B0, B1, B2, B3, B4, B5, B6, B7, B8] := (pm_9_1_2_3_4_5_6_8 B0 B1 B2 B3 B4 B5 B6 B7 B8).symm
theorem pm_9_1_2_3_4_5_7_8 (B0 B1 B2 B3 B4 B5 B6 B7 B8 : va_W) : [B0, B1, B2, B3, B4, B5, B6, B7, B8].Perm ([B1, B2, B3, B4, B5, B7, B8] ++ [B0, B6]) := List.Perm.trans (List.perm_middle (l₁ := [B0]) (a := B1) (l₂ := [B2, B3, B4, B5, B6, B7, B8])) (List.Perm.trans (List.Perm.cons _ (List.perm_middle (l₁ := [B0]) (a := B2) (l₂ := [B3, B4, B5, B6, B7, B8]))) (List.Perm.trans (List.Perm.cons _ (List.Perm.cons _ (List.perm_middle (l₁ := [B0]) (a := B3) (l₂ := [B4, B5, B6, B7, B8])))) (List.Perm.trans (List.Perm.cons _ (List.Perm.cons _ (List.Perm.cons _ (List.perm_middle (l₁ := [B0]) (a := B4) (l₂ := [B5, B6, B7, B8]))))) (List.Perm.trans (List.Perm.cons _ (List.Perm.cons _ (List.Perm.cons _ (List.Perm.cons _ (List.perm_middle (l₁ := [B0]) (a := B5) (l₂ := [B6, B7, B8])))))) (List.Perm.trans (List.Perm.cons _ (List.Perm.cons _ (List.Perm.cons _ (List.Perm.cons _ (List.Perm.cons _ (List.perm_middle (l₁ := [B0, B6]) (a := B7) (l₂ := [B8]))))))) (List.Perm.cons _ (List.Perm.cons _ (List.Perm.cons _ (List.Perm.cons _ (List.Perm.cons _ (List.Perm.cons _ (List.perm_middle (l₁ := [B0, B6]) (a := B8) (l₂ := [])))))))))))))
theorem pr_9_1_2_3_4_5_7_8 (B0 B1 B2 B3 B4 B5 B6 B7 B8 : va_W) : ([B1, B2, B3, B4, B5, B7, B8] ++ [B0, B6]).Perm [B0, B1, B2, B3, B4, B5, B6, B7, B8] := (pm_9_1_2_3_4_5_7_8 B0 B1 B2 B3 B4 B5 B6 B7 B8).symm
theorem pm_9_1_6_7 (B0 B1 B2 B3 B4 B5 B6 B7 B8 : va_W) : [B0, B1, B2, B3, B4, B5, B6, B7, B8].Perm ([B1, B6, B7] ++ [B0, B2, B3, B4, B5, B8]) := List.Perm.trans (List.perm_middle (l₁ := [B0]) (a := B1) (l₂ := [B2, B3, B4, B5, B6, B7, B8])) (List.Perm.trans (List.Perm.cons _ (List.perm_middle (l₁ := [B0, B2, B3, B4, B5]) (a := B6) (l₂ := [B7, B8]))) (List.Perm.cons _ (List.Perm.cons _ (List.perm_middle (l₁ := [B0, B2, B3, B4, B5]) (a := B7) (l₂ := [B8])))))
theorem pr_9_1_6_7 (B0 B1 B2 B3 B4 B5 B6 B7 B8 : va_W) : ([B1, B6, B7] ++ [B0, B2, B3, B4, B5, B8]).Perm [B0, B1, B2, B3, B4, B5, B6, B7, B8] := (pm_9_1_6_7 B0 B1 B2 B3 B4 B5 B6 B7 B8).symm
theorem pm_9_8 (B0 B1 B2 B3 B4 B5 B6 B7 B8 : va_W) : [B0, B1, B2, B3, B4, B5, B6, B7, B8].Perm ([B8] ++ [B0, B1, B2, B3, B4, B5, B6, B7]) := List.perm_middle (l₁ := [B0, B1, B2, B3, B4, B5, B6, B7]) (a := B8) (l₂ := [])
theorem pr_9_8 (B0 B1 B2 B3 B4 B5 B6 B7 B8 : va_W) : ([B8] ++ [B0, B1, B2, B3, B4, B5, B6, B7]).Perm [B0, B1, B2, B3, B4, B5, B6, B7, B8] := (pm_9_8 B0 B1 B2 B3 B4 B5 B6 B7 B8).symm
theorem pm_9_8_7 (B0 B1 B2 B3 B4 B5 B6 B7 B8 : va_W) : [B0, B1, B2, B3, B4, B5, B6, B7, B8].Perm ([B8, B7] ++ [B0, B1, B2, B3, B4, B5, B6]) := List.Perm.trans (List.perm_middle (l₁ := [B0, B1, B2, B3, B4, B5, B6, B7]) (a := B8) (l₂ := [])) (List.Perm.cons _ (List.perm_middle (l₁ := [B0, B1, B2, B3, B4, B5, B6]) (a := B7) (l₂ := [])))
theorem pr_9_8_7 (B0 B1 B2 B3 B4 B5 B6 B7 B8 : va_W) : ([B8, B7] ++ [B0, B1, B2, B3, B4, B5, B6]).Perm [B0, B1, B2, B3, B4, B5, B6, B7, B8] := (pm_9_8_7 B0 B1 B2 B3 B4 B5 B6 B7 B8).symm
set_option maxHeartbeats 4000000 in
set_option maxRecDepth 100000 in
theorem c_X5_countRings (l : Launch) (D : va_G) (cA : Nat → ClassId) (q v : Nat) (b tb r m o d : Nat → Nat) (c : Int) (z : Int) (X F Nx f S : Int → Int) (hI : Inv S) : MI (U := (Int → Int) × (Int → Int) × (Int → Int) × (Int → Int)) l yX5_countRings cX5_countRings 1 (some .int) (rmN 24 0 0) D cA [.ref (q)] [prO q v b tb r m o c, rgO r (d 0) z, dbO d, [(d 1, aJ (cA 0) 49 X)], [(d 2, aJ (cA 0) 49 F)], [(d 3, aJ (cA 0) 40 Nx)], [(r 1, aJ (cA 0) 2365 f)], bk cA b S] (fun x u => x = ((RS S).length : Int) ∧ Fnd S u.1 u.2.1 u.2.2.1 u.2.2.2 ((RS S).length : Int)) (fun u => [prO q v b tb r m o c, rgO r (d 0) ((RS S).length : Int), dbO d, [(d 1, aJ (cA 0) 49 u.1)], [(d 2, aJ (cA 0) 49 u.2.1)], [(d 3, aJ (cA 0) 40 u.2.2.1)], [(r 1, aJ (cA 0) 2365 u.2.2.2)], bk cA b S]) := by
  refine m_startI pn_X5 rfl (List.forall_mem_cons.mpr ⟨rfl, fun _ h => absurd h List.not_mem_nil⟩) (Nat.le_of_ble_eq_true rfl) ?_
  intro K C e1 e2 e3 hin hR
  subst e1 e2 e3
  show J K 0 0 [prO q v b tb r m o c, rgO r (d 0) z, dbO d, [(d 1, aJ ((kC K) 0) 49 X)], [(d 2, aJ ((kC K) 0) 49 F)], [(d 3, aJ ((kC K) 0) 40 Nx)], [(r 1, aJ ((kC K) 0) 2365 f)], bk (kC K) b S] [some (.ref (q))] 0 []
  refine j_aload_n C dX5_countRings_0 rfl ?_
  refine j_get C 0 0 2 rfl rfl rfl wU_X5 (by decide) wF_X5_22 rfl dX5_countRings_1 ?_
  refine j_aload_n C dX5_countRings_4 rfl ?_
  refine j_get C 0 0 0 rfl rfl rfl wU_X5 (by decide) wF_X5_12 rfl dX5_countRings_5 ?_
  refine j_perm (pm_8_1_2_3_4_5_6_7 _ _ _ _ _ _ _ _) ?_
  refine j_callVv C (As := [.ref _]) (c_X4_find _ _ _ _ _ _ _ _ _ _ _ _ (by first | assumption | omega)) 1 nf_X4_find (jb := 0) rfl rfl wL_X5_209 wI_X4_find wSe_X4_X4_find wIn_X4 wC_X4_find rfl rfl (by decide) dX5_countRings_8 (Nat.le_of_ble_eq_true rfl) ⟨Nat.le_of_ble_eq_true rfl, Nat.le_of_ble_eq_true rfl⟩ (fun u8 h8 => ?_)
  refine j_perm (pr_8_1_2_3_4_5_6_7 _ _ _ _ _ _ _ _) ?_
  obtain h8 := h8
  refine j_aload_n C dX5_countRings_11 rfl ?_
  refine j_get C 0 0 2 rfl rfl rfl wU_X5 (by decide) wF_X5_22 rfl dX5_countRings_12 ?_
  refine j_getN C 1 0 3 rfl rfl rfl wU_X4 (by decide) wFN_X5_280 rfl dX5_countRings_15 ?_
  exact hR u8 dX5_countRings_18 (by exact ⟨rfl, h8⟩) rfl (Nat.le_of_ble_eq_true rfl) (Nat.le_of_ble_eq_true rfl)
set_option maxHeartbeats 4000000 in
set_option maxRecDepth 100000 in
theorem c_X5_bestRing (l : Launch) (D : va_G) (cA : Nat → ClassId) (q v : Nat) (b tb r m o d : Nat → Nat) (c : Int) (z : Int) (X F Nx f S : Int → Int) (hI : Inv S) : MI (U := (Int → Int) × (Int → Int) × (Int → Int) × (Int → Int)) l yX5_bestRing cX5_bestRing 1 (some .int) (rmN 24 0 0) D cA [.ref (q)] [prO q v b tb r m o c, rgO r (d 0) z, dbO d, [(d 1, aJ (cA 0) 49 X)], [(d 2, aJ (cA 0) 49 F)], [(d 3, aJ (cA 0) 40 Nx)], [(r 1, aJ (cA 0) 2365 f)], bk cA b S] (fun x u => x = best S) (fun u => [prO q v b tb r m o c, rgO r (d 0) ((RS S).length : Int), dbO d, [(d 1, aJ (cA 0) 49 u.1)], [(d 2, aJ (cA 0) 49 u.2.1)], [(d 3, aJ (cA 0) 40 u.2.2.1)], [(r 1, aJ (cA 0) 2365 u.2.2.2)], bk cA b S]) := by
  refine m_startI pn_X5 rfl (List.forall_mem_cons.mpr ⟨rfl, fun _ h => absurd h List.not_mem_nil⟩) (Nat.le_of_ble_eq_true rfl) ?_
  intro K C e1 e2 e3 hin hR
  subst e1 e2 e3
  show J K 0 0 [prO q v b tb r m o c, rgO r (d 0) z, dbO d, [(d 1, aJ ((kC K) 0) 49 X)], [(d 2, aJ ((kC K) 0) 49 F)], [(d 3, aJ ((kC K) 0) 40 Nx)], [(r 1, aJ ((kC K) 0) 2365 f)], bk (kC K) b S] [some (.ref (q))] 0 []
  refine j_aload_n C dX5_bestRing_0 rfl ?_
  refine j_get C 0 0 2 rfl rfl rfl wU_X5 (by decide) wF_X5_22 rfl dX5_bestRing_1 ?_
  refine j_aload_n C dX5_bestRing_4 rfl ?_
  refine j_get C 0 0 0 rfl rfl rfl wU_X5 (by decide) wF_X5_12 rfl dX5_bestRing_5 ?_
  refine j_perm (pm_8_1_2_3_4_5_6_7 _ _ _ _ _ _ _ _) ?_
  refine j_callVv C (As := [.ref _]) (c_X4_find _ _ _ _ _ _ _ _ _ _ _ _ (by first | assumption | omega)) 1 nf_X4_find (jb := 0) rfl rfl wL_X5_209 wI_X4_find wSe_X4_X4_find wIn_X4 wC_X4_find rfl rfl (by decide) dX5_bestRing_8 (Nat.le_of_ble_eq_true rfl) ⟨Nat.le_of_ble_eq_true rfl, Nat.le_of_ble_eq_true rfl⟩ (fun u8 h8 => ?_)
  refine j_perm (pr_8_1_2_3_4_5_6_7 _ _ _ _ _ _ _ _) ?_
  obtain h8 := h8
  refine j_aload_n C dX5_bestRing_11 rfl ?_
  refine j_get C 0 0 2 rfl rfl rfl wU_X5 (by decide) wF_X5_22 rfl dX5_bestRing_12 ?_
  refine j_aload_n C dX5_bestRing_15 rfl ?_
  refine j_get C 0 0 0 rfl rfl rfl wU_X5 (by decide) wF_X5_12 rfl dX5_bestRing_16 ?_
  refine j_perm (pm_8_1_2_3_4_5_6_7 _ _ _ _ _ _ _ _) ?_
  refine j_callVi C (As := [.ref _]) (c_X4_best _ _ _ _ _ _ _ _ _ _ _ _ (by first | assumption | omega) (by exact h8)) 1 nf_X4_best (jb := 0) rfl rfl wL_X5_213 wI_X4_best wSe_X4_X4_best wIn_X4 wC_X4_best rfl rfl (by decide) dX5_bestRing_19 (Nat.le_of_ble_eq_true rfl) ⟨Nat.le_of_ble_eq_true rfl, Nat.le_of_ble_eq_true rfl⟩ (fun x19 u19 h19 => ?_)
  refine j_perm (pr_8_1_2_3_4_5_6_7 _ _ _ _ _ _ _ _) ?_
  exact hR u8 dX5_bestRing_22 (by first | trivial | omega | rfl) rfl (Nat.le_of_ble_eq_true rfl) (Nat.le_of_ble_eq_true rfl)
set_option maxHeartbeats 4000000 in
set_option maxRecDepth 100000 in
theorem c_X5_costByRings (l : Launch) (D : va_G) (cA : Nat → ClassId) (q v : Nat) (b tb r m o d : Nat → Nat) (c : Int) (z : Int) (X F Nx f S : Int → Int) (T : Int → Int) (hI : Inv S) (hz : Inz S) (hI2 : Inv (cpS T S)) (hI3 : Inv (disA 49 (cpS T S) 0).1) : MI (U := (Int → Int) × (Int → Int) × (Int → Int) × (Int → Int) × Int) l yX5_costByRings cX5_costByRings 1 (some .int) (rmN 24 0 0) D cA [.ref (q)] [prO q v b tb r m o c, rgO r (d 0) z, dbO d, [(d 1, aJ (cA 0) 49 X)], [(d 2, aJ (cA 0) 49 F)], [(d 3, aJ (cA 0) 40 Nx)], [(r 1, aJ (cA 0) 2365 f)], bk cA b S, bk cA tb T] (fun x u => x = cosS (disA 49 (cpS T S) 0).1) (fun u => [prO q v b tb r m o c, rgO r (d 0) u.2.2.2.2, dbO d, [(d 1, aJ (cA 0) 49 u.1)], [(d 2, aJ (cA 0) 49 u.2.1)], [(d 3, aJ (cA 0) 40 u.2.2.1)], [(r 1, aJ (cA 0) 2365 u.2.2.2.1)], bk cA b S, bk cA tb (disA 49 (cpS T S) 0).1]) := by
  refine m_startI pn_X5 rfl (List.forall_mem_cons.mpr ⟨rfl, fun _ h => absurd h List.not_mem_nil⟩) (Nat.le_of_ble_eq_true rfl) ?_
  intro K C e1 e2 e3 hin hR
  subst e1 e2 e3
  show J K 0 0 [prO q v b tb r m o c, rgO r (d 0) z, dbO d, [(d 1, aJ ((kC K) 0) 49 X)], [(d 2, aJ ((kC K) 0) 49 F)], [(d 3, aJ ((kC K) 0) 40 Nx)], [(r 1, aJ ((kC K) 0) 2365 f)], bk (kC K) b S, bk (kC K) tb T] [some (.ref (q))] 0 []
  refine j_aload_n C dX5_costByRings_0 rfl ?_
  refine j_get C 0 0 1 rfl rfl rfl wU_X5 (by decide) wF_X5_16 rfl dX5_costByRings_1 ?_
  refine j_aload_n C dX5_costByRings_4 rfl ?_
  refine j_get C 0 0 0 rfl rfl rfl wU_X5 (by decide) wF_X5_12 rfl dX5_costByRings_5 ?_
  refine j_perm (pm_9_8_7 _ _ _ _ _ _ _ _ _) ?_
  refine j_callVv C (As := [.ref _]) (c_X0_copyFrom _ _ _ _ _ _ _ (by first | assumption | omega)) 1 nf_X0_copyFrom (jb := 0) rfl rfl wL_X5_216 wI_X0_copyFrom wSe_X0_X0_copyFrom wIn_X0 wC_X0_copyFrom rfl rfl (by decide) dX5_costByRings_8 (Nat.le_of_ble_eq_true rfl) ⟨Nat.le_of_ble_eq_true rfl, Nat.le_of_ble_eq_true rfl⟩ (fun u8 h8 => ?_)
  refine j_perm (pr_9_8_7 _ _ _ _ _ _ _ _ _) ?_
  refine j_aload_n C dX5_costByRings_11 rfl ?_
  refine j_get C 0 0 2 rfl rfl rfl wU_X5 (by decide) wF_X5_22 rfl dX5_costByRings_12 ?_
  refine j_aload_n C dX5_costByRings_15 rfl ?_
  refine j_get C 0 0 1 rfl rfl rfl wU_X5 (by decide) wF_X5_16 rfl dX5_costByRings_16 ?_
  refine j_perm (pm_9_1_2_3_4_5_6_8 _ _ _ _ _ _ _ _ _) ?_
  refine j_callVi C (As := [.ref _]) (c_X4_releaseAll _ _ _ _ _ _ _ _ _ _ _ _ (by exact hI2)) 1 nf_X4_releaseAll (jb := 0) rfl rfl wL_X5_142 wI_X4_releaseAll wSe_X4_X4_releaseAll wIn_X4 wC_X4_releaseAll rfl rfl (by decide) dX5_costByRings_19 (Nat.le_of_ble_eq_true rfl) ⟨Nat.le_of_ble_eq_true rfl, Nat.le_of_ble_eq_true rfl⟩ (fun x19 u19 h19 => ?_)
  refine j_perm (pr_9_1_2_3_4_5_6_8 _ _ _ _ _ _ _ _ _) ?_
  refine j_pop C dX5_costByRings_22 rfl ?_
  refine j_aload_n C dX5_costByRings_23 rfl ?_
  refine j_get C 0 0 1 rfl rfl rfl wU_X5 (by decide) wF_X5_16 rfl dX5_costByRings_24 ?_
  refine j_perm (pm_9_8 _ _ _ _ _ _ _ _ _) ?_
  refine j_callVi C (As := []) (c_X0_costOfAll _ _ _ _ _ (by exact hI3.2.1)) 0 nf_X0_costOfAll (jb := 0) rfl rfl wL_X5_189 wI_X0_costOfAll wSe_X0_X0_costOfAll wIn_X0 wC_X0_costOfAll rfl rfl (by decide) dX5_costByRings_27 (Nat.le_of_ble_eq_true rfl) ⟨Nat.le_of_ble_eq_true rfl, Nat.le_of_ble_eq_true rfl⟩ (fun x27 u27 h27 => ?_)
  refine j_perm (pr_9_8 _ _ _ _ _ _ _ _ _) ?_
  exact hR u19 dX5_costByRings_30 (by first | trivial | omega | rfl) rfl (Nat.le_of_ble_eq_true rfl) (Nat.le_of_ble_eq_true rfl)
set_option maxHeartbeats 4000000 in
set_option maxRecDepth 100000 in
theorem c_X5_leastCost (l : Launch) (D : va_G) (cA : Nat → ClassId) (q v : Nat) (b tb r m o d : Nat → Nat) (c : Int) (X E D1 B1 S : Int → Int) (hI : Inv S) : MI (U := (Int → Int) × (Int → Int) × (Int → Int) × (Int → Int)) l yX5_leastCost cX5_leastCost 1 (some .int) (rmN 24 0 0) D cA [.ref (q)] [prO q v b tb r m o c, rmO m, [(m 1, aJ (cA 0) 40 X)], [(m 2, aJ (cA 0) 7 E)], [(m 3, aJ (cA 0) 7 D1)], [(m 4, aJ (cA 0) 7 B1)], bk cA b S] (fun x _ => x = leastS S) (fun u => [prO q v b tb r m o c, rmO m, [(m 1, aJ (cA 0) 40 u.1)], [(m 2, aJ (cA 0) 7 u.2.1)], [(m 3, aJ (cA 0) 7 u.2.2.1)], [(m 4, aJ (cA 0) 7 u.2.2.2)], bk cA b S]) := by
  refine m_startI pn_X5 rfl (List.forall_mem_cons.mpr ⟨rfl, fun _ h => absurd h List.not_mem_nil⟩) (Nat.le_of_ble_eq_true rfl) ?_
  intro K C e1 e2 e3 hin hR
  subst e1 e2 e3
  show J K 0 0 [prO q v b tb r m o c, rmO m, [(m 1, aJ ((kC K) 0) 40 X)], [(m 2, aJ ((kC K) 0) 7 E)], [(m 3, aJ ((kC K) 0) 7 D1)], [(m 4, aJ ((kC K) 0) 7 B1)], bk (kC K) b S] [some (.ref (q))] 0 []
  refine j_aload_n C dX5_leastCost_0 rfl ?_
  refine j_get C 0 0 3 rfl rfl rfl wU_X5 (by decide) wF_X5_29 rfl dX5_leastCost_1 ?_
  refine j_aload_n C dX5_leastCost_4 rfl ?_
  refine j_get C 0 0 0 rfl rfl rfl wU_X5 (by decide) wF_X5_12 rfl dX5_leastCost_5 ?_
  refine j_perm (pm_7_1_2_3_4_5_6 _ _ _ _ _ _ _) ?_
  refine j_callVi C (As := [.ref _]) (c_X3_leastCostOf _ _ _ _ _ _ _ _ _ _ (by first | assumption | omega)) 1 nf_X3_leastCostOf (jb := 0) rfl rfl wL_X5_219 wI_X3_leastCostOf wSe_X3_X3_leastCostOf wIn_X3 wC_X3_leastCostOf rfl rfl (by decide) dX5_leastCost_8 (Nat.le_of_ble_eq_true rfl) ⟨Nat.le_of_ble_eq_true rfl, Nat.le_of_ble_eq_true rfl⟩ (fun x8 u8 h8 => ?_)
  refine j_perm (pr_7_1_2_3_4_5_6 _ _ _ _ _ _ _) ?_
  exact hR u8 dX5_leastCost_11 (by first | trivial | omega | rfl) rfl (Nat.le_of_ble_eq_true rfl) (Nat.le_of_ble_eq_true rfl)
set_option maxHeartbeats 4000000 in
set_option maxRecDepth 100000 in
theorem c_X5_ringsWithout (l : Launch) (D : va_G) (cA : Nat → ClassId) (q v : Nat) (b tb r m o d : Nat → Nat) (c : Int) (z : Int) (X F Nx f S : Int → Int) (th : Int → Int) (p : Int) (hI : Inv S) (hp : 0 ≤ p ∧ p < S 1) : MI (U := ((Int → Int) × (Int → Int) × (Int → Int) × (Int → Int)) × (Int → Int)) l yX5_ringsWithout cX5_ringsWithout 2 (some .int) (rmN 24 0 0) D cA [.ref (q), .int (iI p)] [prO q v b tb r m o c, rgO r (d 0) z, dbO d, [(d 1, aJ (cA 0) 49 X)], [(d 2, aJ (cA 0) 49 F)], [(d 3, aJ (cA 0) 40 Nx)], [(r 1, aJ (cA 0) 2365 f)], [(r 2, aJ (cA 0) 49 th)], bk cA b S] (fun x _ => x = rwO S p) (fun u => [prO q v b tb r m o c, rgO r (d 0) ((RS S).length : Int), dbO d, [(d 1, aJ (cA 0) 49 u.1.1)], [(d 2, aJ (cA 0) 49 u.1.2.1)], [(d 3, aJ (cA 0) 40 u.1.2.2.1)], [(r 1, aJ (cA 0) 2365 u.1.2.2.2)], [(r 2, aJ (cA 0) 49 u.2)], bk cA b S]) := by
  refine m_startI pn_X5 rfl (List.forall_mem_cons.mpr ⟨rfl, List.forall_mem_cons.mpr ⟨rfl, fun _ h => absurd h List.not_mem_nil⟩⟩) (Nat.le_of_ble_eq_true rfl) ?_
  intro K C e1 e2 e3 hin hR
  subst e1 e2 e3
  have hN := hI.2.1
  show J K 0 0 [prO q v b tb r m o c, rgO r (d 0) z, dbO d, [(d 1, aJ ((kC K) 0) 49 X)], [(d 2, aJ ((kC K) 0) 49 F)], [(d 3, aJ ((kC K) 0) 40 Nx)], [(r 1, aJ ((kC K) 0) 2365 f)], [(r 2, aJ ((kC K) 0) 49 th)], bk (kC K) b S] [some (.ref (q)), some (.int (iI p))] 0 []
  refine j_aload_n C dX5_ringsWithout_0 rfl ?_
  refine j_get C 0 0 0 rfl rfl rfl wU_X5 (by decide) wF_X5_12 rfl dX5_ringsWithout_1 ?_
  refine j_iload_n C dX5_ringsWithout_4 rfl ?_
  refine j_perm (pm_9_8 _ _ _ _ _ _ _ _ _) ?_
  refine j_callVi C (As := [.int (iI _)]) (c_X0_holds _ _ _ _ _ _ (by first | assumption | omega) (by first | assumption | omega)) 1 nf_X0_holds (jb := 0) rfl rfl wL_X5_90 wI_X0_holds wSe_X0_X0_holds wIn_X0 wC_X0_holds rfl rfl (by decide) dX5_ringsWithout_5 (Nat.le_of_ble_eq_true rfl) ⟨Nat.le_of_ble_eq_true rfl, Nat.le_of_ble_eq_true rfl⟩ (fun x5 u5 h5 => ?_)
  refine j_perm (pr_9_8 _ _ _ _ _ _ _ _ _) ?_
  refine j_if_ne (tgt := 21) C dX5_ringsWithout_8 (by decide) (by omega) (by omega) (fun c8 => ?_) (fun c8 => ?_)
  · refine j_aload_n C dX5_ringsWithout_21 rfl ?_
    refine j_get C 0 0 2 rfl rfl rfl wU_X5 (by decide) wF_X5_22 rfl dX5_ringsWithout_22 ?_
    refine j_aload_n C dX5_ringsWithout_25 rfl ?_
    refine j_get C 0 0 0 rfl rfl rfl wU_X5 (by decide) wF_X5_12 rfl dX5_ringsWithout_26 ?_
    refine j_perm (pm_9_1_2_3_4_5_6_8 _ _ _ _ _ _ _ _ _) ?_
    refine j_callVv C (As := [.ref _]) (c_X4_find _ _ _ _ _ _ _ _ _ _ _ _ (by first | assumption | omega)) 1 nf_X4_find (jb := 0) rfl rfl wL_X5_209 wI_X4_find wSe_X4_X4_find wIn_X4 wC_X4_find rfl rfl (by decide) dX5_ringsWithout_29 (Nat.le_of_ble_eq_true rfl) ⟨Nat.le_of_ble_eq_true rfl, Nat.le_of_ble_eq_true rfl⟩ (fun u29 h29 => ?_)
    refine j_perm (pr_9_1_2_3_4_5_6_8 _ _ _ _ _ _ _ _ _) ?_
    obtain h29 := h29
    refine j_aload_n C dX5_ringsWithout_32 rfl ?_
    refine j_get C 0 0 2 rfl rfl rfl wU_X5 (by decide) wF_X5_22 rfl dX5_ringsWithout_33 ?_
    refine j_perm (pm_9_1_6_7 _ _ _ _ _ _ _ _ _) ?_
    refine j_callVv C (As := []) (c_X4_countThrough _ _ _ _ _ _ _ _ _ (by first | assumption | omega) (by exact h29.2)) 0 nf_X4_countThrough (jb := 0) rfl rfl wL_X5_222 wI_X4_countThrough wSe_X4_X4_countThrough wIn_X4 wC_X4_countThrough rfl rfl (by decide) dX5_ringsWithout_36 (Nat.le_of_ble_eq_true rfl) ⟨Nat.le_of_ble_eq_true rfl, Nat.le_of_ble_eq_true rfl⟩ (fun u36 h36 => ?_)
    refine j_perm (pr_9_1_6_7 _ _ _ _ _ _ _ _ _) ?_
    refine j_aload_n C dX5_ringsWithout_39 rfl ?_
    refine j_get C 0 0 2 rfl rfl rfl wU_X5 (by decide) wF_X5_22 rfl dX5_ringsWithout_40 ?_
    refine j_aload_n C dX5_ringsWithout_43 rfl ?_
    refine j_get C 0 0 0 rfl rfl rfl wU_X5 (by decide) wF_X5_12 rfl dX5_ringsWithout_44 ?_
    refine j_iload_n C dX5_ringsWithout_47 rfl ?_
    refine j_perm (pm_9_1_2_3_4_5_7_8 _ _ _ _ _ _ _ _ _) ?_
    refine j_callVi C (As := [.ref _, .int (iI _)]) (c_X4_sizeWithout _ _ _ _ _ _ _ _ _ _ _ _ _ (by first | assumption | omega) (by exact h29.1) (by rfl) (by exact h36) (by first | assumption | omega)) 2 nf_X4_sizeWithout (jb := 0) rfl rfl wL_X5_225 wI_X4_sizeWithout wSe_X4_X4_sizeWithout wIn_X4 wC_X4_sizeWithout rfl rfl (by decide) dX5_ringsWithout_48 (Nat.le_of_ble_eq_true rfl) ⟨Nat.le_of_ble_eq_true rfl, Nat.le_of_ble_eq_true rfl⟩ (fun x48 u48 h48 => ?_)
    refine j_perm (pr_9_1_2_3_4_5_7_8 _ _ _ _ _ _ _ _ _) ?_
    exact hR (u29, u36) dX5_ringsWithout_51 (by first | trivial | omega | rfl) rfl (Nat.le_of_ble_eq_true rfl) (Nat.le_of_ble_eq_true rfl)
  · exact absurd c8 (by rw [h5, if_pos (by omega)]; decide)
set_option maxHeartbeats 4000000 in
set_option maxRecDepth 100000 in
theorem c_X5_keyPromise (l : Launch) (D : va_G) (cA : Nat → ClassId) (q v : Nat) (b tb r m o d : Nat → Nat) (c : Int) (z : Int) (X F Nx f S : Int → Int) (th : Int → Int) (hI : Inv S) : MI (U := ((Int → Int) × (Int → Int) × (Int → Int) × (Int → Int)) × (Int → Int)) l yX5_keyPromise cX5_keyPromise 5 (some .int) (rmN 24 0 0) D cA [.ref (q)] [prO q v b tb r m o c, rgO r (d 0) z, dbO d, [(d 1, aJ (cA 0) 49 X)], [(d 2, aJ (cA 0) 49 F)], [(d 3, aJ (cA 0) 40 Nx)], [(r 1, aJ (cA 0) 2365 f)], [(r 2, aJ (cA 0) 49 th)], bk cA b S] (fun x _ => x = keyS S) (fun u => [prO q v b tb r m o c, rgO r (d 0) ((RS S).length : Int), dbO d, [(d 1, aJ (cA 0) 49 u.1.1)], [(d 2, aJ (cA 0) 49 u.1.2.1)], [(d 3, aJ (cA 0) 40 u.1.2.2.1)], [(r 1, aJ (cA 0) 2365 u.1.2.2.2)], [(r 2, aJ (cA 0) 49 u.2)], bk cA b S]) := by
  refine m_startI pn_X5 rfl (List.forall_mem_cons.mpr ⟨rfl, fun _ h => absurd h List.not_mem_nil⟩) (Nat.le_of_ble_eq_true rfl) ?_
  intro K C e1 e2 e3 hin hR
  subst e1 e2 e3
  have hN := hI.2.1
  show J K 0 0 [prO q v b tb r m o c, rgO r (d 0) z, dbO d, [(d 1, aJ ((kC K) 0) 49 X)], [(d 2, aJ ((kC K) 0) 49 F)], [(d 3, aJ ((kC K) 0) 40 Nx)], [(r 1, aJ ((kC K) 0) 2365 f)], [(r 2, aJ ((kC K) 0) 49 th)], bk (kC K) b S] [some (.ref (q)), none, none, none, none] 0 []
  refine j_aload_n C dX5_keyPromise_0 rfl ?_
  refine j_get C 0 0 2 rfl rfl rfl wU_X5 (by decide) wF_X5_22 rfl dX5_keyPromise_1 ?_
  refine j_aload_n C dX5_keyPromise_4 rfl ?_
  refine j_get C 0 0 0 rfl rfl rfl wU_X5 (by decide) wF_X5_12 rfl dX5_keyPromise_5 ?_
  refine j_perm (pm_9_1_2_3_4_5_6_8 _ _ _ _ _ _ _ _ _) ?_
  refine j_callVv C (As := [.ref _]) (c_X4_find _ _ _ _ _ _ _ _ _ _ _ _ (by first | assumption | omega)) 1 nf_X4_find (jb := 0) rfl rfl wL_X5_209 wI_X4_find wSe_X4_X4_find wIn_X4 wC_X4_find rfl rfl (by decide) dX5_keyPromise_8 (Nat.le_of_ble_eq_true rfl) ⟨Nat.le_of_ble_eq_true rfl, Nat.le_of_ble_eq_true rfl⟩ (fun u8 h8 => ?_)
  refine j_perm (pr_9_1_2_3_4_5_6_8 _ _ _ _ _ _ _ _ _) ?_
  obtain h8 := h8
  refine j_aload_n C dX5_keyPromise_11 rfl ?_
  refine j_get C 0 0 2 rfl rfl rfl wU_X5 (by decide) wF_X5_22 rfl dX5_keyPromise_12 ?_
  refine j_perm (pm_9_1_6_7 _ _ _ _ _ _ _ _ _) ?_
  refine j_callVv C (As := []) (c_X4_countThrough _ _ _ _ _ _ _ _ _ (by first | assumption | omega) (by exact h8.2)) 0 nf_X4_countThrough (jb := 0) rfl rfl wL_X5_222 wI_X4_countThrough wSe_X4_X4_countThrough wIn_X4 wC_X4_countThrough rfl rfl (by decide) dX5_keyPromise_15 (Nat.le_of_ble_eq_true rfl) ⟨Nat.le_of_ble_eq_true rfl, Nat.le_of_ble_eq_true rfl⟩ (fun u15 h15 => ?_)
  refine j_perm (pr_9_1_6_7 _ _ _ _ _ _ _ _ _) ?_
  refine j_iconst C dX5_keyPromise_18 ?_
  refine j_istn_1 C dX5_keyPromise_19 rfl ?_
  refine j_iconst C dX5_keyPromise_20 ?_
  refine j_istn_2 C dX5_keyPromise_21 rfl ?_
  refine j_iconst C dX5_keyPromise_22 ?_
  refine j_istn_3 C dX5_keyPromise_23 rfl ?_
  have L24 : ∀ (fuel : Nat) (k w i : Int) (hi : 0 ≤ i ∧ i ≤ S 1) (hk : -1 ≤ k ∧ k < 40 ∧ 0 ≤ w ∧ w ≤ 2365) (hy : key S (S 1 - i).toNat i k w = keyS S) (hf24 : (S 1 - i).toNat < fuel), J K 0 0 [prO q v b tb r m o c, rgO r (d 0) ((RS S).length : Int), dbO d, [(d 1, aJ ((kC K) 0) 49 u8.1)], [(d 2, aJ ((kC K) 0) 49 u8.2.1)], [(d 3, aJ ((kC K) 0) 40 u8.2.2.1)], [(r 1, aJ ((kC K) 0) 2365 u8.2.2.2)], [(r 2, aJ ((kC K) 0) 49 u15)], bk (kC K) b S] [some (.ref (q)), some (.int (iI k)), some (.int (iI w)), some (.int (iI i)), none] 24 [] := by
    intro fuel
    induction fuel with
    | zero => intro k w i hi hk hy hf24; exact absurd hf24 (Nat.not_lt_zero _)
    | succ fuel ih24 =>
      intro k w i hi hk hy hf24
      refine j_iload_n C dX5_keyPromise_24 rfl ?_
      refine j_aload_n C dX5_keyPromise_25 rfl ?_
      refine j_get C 0 0 0 rfl rfl rfl wU_X5 (by decide) wF_X5_12 rfl dX5_keyPromise_26 ?_
      refine j_getN C 8 0 1 rfl rfl rfl wU_X0 (by decide) wFN_X5_54 rfl dX5_keyPromise_29 ?_
      refine j_icmp_ge (tgt := 82) C dX5_keyPromise_32 (by decide) (by omega) (by omega) (by omega) (by omega) (fun c32 => ?_) (fun c32 => ?_)
      · refine j_iload_n C dX5_keyPromise_82 rfl ?_
        exact hR (u8, u15) dX5_keyPromise_83 (by rw [show (S 1 - i).toNat = 0 by omega] at hy; exact hy) rfl (Nat.le_of_ble_eq_true rfl) (Nat.le_of_ble_eq_true rfl)
      · have L76 : ∀ (k1 w1 : Int) (hk1 : -1 ≤ k1 ∧ k1 < 40) (hkey : key S (S 1 - (i + 1)).toNat (i + 1) k1 w1 = keyS S ∧ 0 ≤ w1 ∧ w1 ≤ 2365), J K 0 0 [prO q v b tb r m o c, rgO r (d 0) ((RS S).length : Int), dbO d, [(d 1, aJ ((kC K) 0) 49 u8.1)], [(d 2, aJ ((kC K) 0) 49 u8.2.1)], [(d 3, aJ ((kC K) 0) 40 u8.2.2.1)], [(r 1, aJ ((kC K) 0) 2365 u8.2.2.2)], [(r 2, aJ ((kC K) 0) 49 u15)], bk (kC K) b S] [some (.ref (q)), some (.int (iI k1)), some (.int (iI w1)), some (.int (iI i)), none] 76 [] := by
          intro k1 w1 hk1 hkey
          refine j_iinc_3 C dX5_keyPromise_76 rfl ?_
          refine j_goto (tgt := 24) C dX5_keyPromise_79 (by decide) ?_
          exact ih24 _ _ _ (by omega) (by exact ⟨by omega, by omega, hkey.2.1, hkey.2.2⟩) (by exact hkey.1) (by omega)
        refine j_aload_n C dX5_keyPromise_35 rfl ?_
        refine j_get C 0 0 0 rfl rfl rfl wU_X5 (by decide) wF_X5_12 rfl dX5_keyPromise_36 ?_
        refine j_iload_n C dX5_keyPromise_39 rfl ?_
        refine j_perm (pm_9_8 _ _ _ _ _ _ _ _ _) ?_
        refine j_callVi C (As := [.int (iI _)]) (c_X0_isOwing _ _ _ _ _ _ (by first | assumption | omega) (by first | assumption | omega)) 1 nf_X0_isOwing (jb := 0) rfl rfl wL_X5_229 wI_X0_isOwing wSe_X0_X0_isOwing wIn_X0 wC_X0_isOwing rfl rfl (by decide) dX5_keyPromise_40 (Nat.le_of_ble_eq_true rfl) ⟨Nat.le_of_ble_eq_true rfl, Nat.le_of_ble_eq_true rfl⟩ (fun x40 u40 h40 => ?_)
        refine j_perm (pr_9_8 _ _ _ _ _ _ _ _ _) ?_
        refine j_if_eq (tgt := 76) C dX5_keyPromise_43 (by decide) (by omega) (by omega) (fun c43 => ?_) (fun c43 => ?_)
        · exact L76 _ _ (by omega) (by refine ⟨?_, by omega, by omega⟩; rw [← hy, show (S 1 - i).toNat = (S 1 - (i + 1)).toNat + 1 by omega, key_s, if_neg (by rw [h40] at c43; split at c43 <;> omega)])
        · refine j_aload_n C dX5_keyPromise_46 rfl ?_
          refine j_get C 0 0 2 rfl rfl rfl wU_X5 (by decide) wF_X5_22 rfl dX5_keyPromise_47 ?_
          refine j_aload_n C dX5_keyPromise_50 rfl ?_
          refine j_get C 0 0 0 rfl rfl rfl wU_X5 (by decide) wF_X5_12 rfl dX5_keyPromise_51 ?_
          refine j_iload_n C dX5_keyPromise_54 rfl ?_
          refine j_perm (pm_9_1_2_3_4_5_7_8 _ _ _ _ _ _ _ _ _) ?_
          refine j_callVi C (As := [.ref _, .int (iI _)]) (c_X4_sizeWithout _ _ _ _ _ _ _ _ _ _ _ _ _ (by first | assumption | omega) (by exact h8.1) (by rfl) (by exact h15) (by first | assumption | omega)) 2 nf_X4_sizeWithout (jb := 0) rfl rfl wL_X5_225 wI_X4_sizeWithout wSe_X4_X4_sizeWithout wIn_X4 wC_X4_sizeWithout rfl rfl (by decide) dX5_keyPromise_55 (Nat.le_of_ble_eq_true rfl) ⟨Nat.le_of_ble_eq_true rfl, Nat.le_of_ble_eq_true rfl⟩ (fun x55 u55 h55 => ?_)
          refine j_perm (pr_9_1_2_3_4_5_7_8 _ _ _ _ _ _ _ _ _) ?_
          have hrw := rwO_bd hI i
          have ks : keyS S = if k = -1 ∨ rwO S i < w then key S (S 1 - (i + 1)).toNat (i + 1) i (rwO S i) else key S (S 1 - (i + 1)).toNat (i + 1) k w := by
            rw [← hy, show (S 1 - i).toNat = (S 1 - (i + 1)).toNat + 1 by omega, key_s, if_pos (by rw [h40] at c43; split at c43 <;> omega)]
          refine j_ist_4 C dX5_keyPromise_58 rfl ?_
          refine j_iload_n C dX5_keyPromise_60 rfl ?_
          refine j_iconst C dX5_keyPromise_61 ?_
          refine j_icmp_eq (tgt := 71) C dX5_keyPromise_62 (by decide) (by omega) (by omega) (by omega) (by omega) (fun c62 => ?_) (fun c62 => ?_)
          · refine j_iload_n C dX5_keyPromise_71 rfl ?_
            refine j_istn_1 C dX5_keyPromise_72 rfl ?_
            refine j_iload C dX5_keyPromise_73 rfl ?_
            refine j_istn_2 C dX5_keyPromise_75 rfl ?_
            exact j_lle (lv' := [_, _, _, _, none]) ⟨Or.inr rfl, ⟨Or.inr rfl, ⟨Or.inr rfl, ⟨Or.inr rfl, ⟨Or.inl rfl, trivial⟩⟩⟩⟩⟩ (L76 _ _ (by omega) (by refine ⟨?_, by omega, by omega⟩; rw [ks, if_pos (by omega), ← h55]))
          · refine j_iload C dX5_keyPromise_65 rfl ?_
            refine j_iload_n C dX5_keyPromise_67 rfl ?_
            refine j_icmp_ge (tgt := 76) C dX5_keyPromise_68 (by decide) (by omega) (by omega) (by omega) (by omega) (fun c68 => ?_) (fun c68 => ?_)
            · exact j_lle (lv' := [_, _, _, _, none]) ⟨Or.inr rfl, ⟨Or.inr rfl, ⟨Or.inr rfl, ⟨Or.inr rfl, ⟨Or.inl rfl, trivial⟩⟩⟩⟩⟩ (L76 _ _ (by omega) (by refine ⟨?_, by omega, by omega⟩; rw [ks, if_neg (by omega)]))
            · refine j_iload_n C dX5_keyPromise_71 rfl ?_
              refine j_istn_1 C dX5_keyPromise_72 rfl ?_
              refine j_iload C dX5_keyPromise_73 rfl ?_
              refine j_istn_2 C dX5_keyPromise_75 rfl ?_
              exact j_lle (lv' := [_, _, _, _, none]) ⟨Or.inr rfl, ⟨Or.inr rfl, ⟨Or.inr rfl, ⟨Or.inr rfl, ⟨Or.inl rfl, trivial⟩⟩⟩⟩⟩ (L76 _ _ (by omega) (by refine ⟨?_, by omega, by omega⟩; rw [ks, if_pos (by omega), ← h55]))
  exact L24 _ _ _ _ (by omega) (by omega) (by rw [show S 1 - 0 = S 1 by omega]; rfl) (Nat.lt_succ_self _)
set_option maxHeartbeats 4000000 in
set_option maxRecDepth 100000 in
theorem c_X5_mutual (l : Launch) (D : va_G) (cA : Nat → ClassId) (q v : Nat) (b tb r m o d : Nat → Nat) (c : Int) (S : Int → Int) (p : Int) (hI : Inv S) (hp : 0 ≤ p ∧ p < S 0) : MI (U := Unit) l yX5_mutual cX5_mutual 4 (some .int) (rmN 24 0 0) D cA [.ref (q), .int (iI p)] [prO q v b tb r m o c, bk cA b S] (fun x _ => x = mutS S p) (fun _ => [prO q v b tb r m o c, bk cA b S]) := by
  refine m_startI pn_X5 rfl (List.forall_mem_cons.mpr ⟨rfl, List.forall_mem_cons.mpr ⟨rfl, fun _ h => absurd h List.not_mem_nil⟩⟩) (Nat.le_of_ble_eq_true rfl) ?_
  intro K C e1 e2 e3 hin hR
  subst e1 e2 e3
  have hN := hI.2.1
  have hQ := hI.1
  show J K 0 0 [prO q v b tb r m o c, bk (kC K) b S] [some (.ref (q)), some (.int (iI p)), none, none] 0 []
  refine j_aload_n C dX5_mutual_0 rfl ?_
  refine j_get C 0 0 0 rfl rfl rfl wU_X5 (by decide) wF_X5_12 rfl dX5_mutual_1 ?_
  refine j_iload_n C dX5_mutual_4 rfl ?_
  refine j_perm (pm_2_1 _ _) ?_
  refine j_callVi C (As := [.int (iI _)]) (c_X0_hasParty _ _ _ _ _ _ (by first | assumption | omega) (by first | assumption | omega)) 1 nf_X0_hasParty (jb := 0) rfl rfl wL_X5_62 wI_X0_hasParty wSe_X0_X0_hasParty wIn_X0 wC_X0_hasParty rfl rfl (by decide) dX5_mutual_5 (Nat.le_of_ble_eq_true rfl) ⟨Nat.le_of_ble_eq_true rfl, Nat.le_of_ble_eq_true rfl⟩ (fun x5 u5 h5 => ?_)
  refine j_perm (pr_2_1 _ _) ?_
  refine j_if_ne (tgt := 21) C dX5_mutual_8 (by decide) (by omega) (by omega) (fun c8 => ?_) (fun c8 => ?_)
  · refine j_iconst C dX5_mutual_21 ?_
    refine j_istn_2 C dX5_mutual_22 rfl ?_
    refine j_iconst C dX5_mutual_23 ?_
    refine j_istn_3 C dX5_mutual_24 rfl ?_
    have L25 : ∀ (fuel : Nat) (s k : Int) (hk : 0 ≤ k ∧ k ≤ S 0) (hs : s = sumZ (fun k => min (debS S p k) (debS S k p)) k) (hf25 : (S 0 - k).toNat < fuel), J K 0 0 [prO q v b tb r m o c, bk (kC K) b S] [some (.ref (q)), some (.int (iI p)), some (.int (iI s)), some (.int (iI k))] 25 [] := by
      intro fuel
      induction fuel with
      | zero => intro s k hk hs hf25; exact absurd hf25 (Nat.not_lt_zero _)
      | succ fuel ih25 =>
        intro s k hk hs hf25
        refine j_iload_n C dX5_mutual_25 rfl ?_
        refine j_aload_n C dX5_mutual_26 rfl ?_
        refine j_get C 0 0 0 rfl rfl rfl wU_X5 (by decide) wF_X5_12 rfl dX5_mutual_27 ?_
        refine j_getN C 1 0 0 rfl rfl rfl wU_X0 (by decide) wFN_X5_177 rfl dX5_mutual_30 ?_
        refine j_icmp_ge (tgt := 66) C dX5_mutual_33 (by decide) (by omega) (by omega) (by omega) (by omega) (fun c33 => ?_) (fun c33 => ?_)
        · refine j_iload_n C dX5_mutual_66 rfl ?_
          refine hR () dX5_mutual_67 ?_ rfl (Nat.le_of_ble_eq_true rfl) (Nat.le_of_ble_eq_true rfl)
          rw [show k = S 0 by omega] at hs
          exact hs
        · refine j_iload_n C dX5_mutual_36 rfl ?_
          refine j_aload_n C dX5_mutual_37 rfl ?_
          refine j_get C 0 0 0 rfl rfl rfl wU_X5 (by decide) wF_X5_12 rfl dX5_mutual_38 ?_
          refine j_iload_n C dX5_mutual_41 rfl ?_
          refine j_iload_n C dX5_mutual_42 rfl ?_
          refine j_perm (pm_2_1 _ _) ?_
          refine j_callVi C (As := [.int (iI _), .int (iI _)]) (c_X0_debtBetween _ _ _ _ _ _ _ (by first | assumption | omega) (by first | assumption | omega) (by first | assumption | omega)) 2 nf_X0_debtBetween (jb := 0) rfl rfl wL_X5_165 wI_X0_debtBetween wSe_X0_X0_debtBetween wIn_X0 wC_X0_debtBetween rfl rfl (by decide) dX5_mutual_43 (Nat.le_of_ble_eq_true rfl) ⟨Nat.le_of_ble_eq_true rfl, Nat.le_of_ble_eq_true rfl⟩ (fun x43 u43 h43 => ?_)
          refine j_perm (pr_2_1 _ _) ?_
          have d1 := debS_bd hI p k
          refine j_aload_n C dX5_mutual_46 rfl ?_
          refine j_get C 0 0 0 rfl rfl rfl wU_X5 (by decide) wF_X5_12 rfl dX5_mutual_47 ?_
          refine j_iload_n C dX5_mutual_50 rfl ?_
          refine j_iload_n C dX5_mutual_51 rfl ?_
          refine j_perm (pm_2_1 _ _) ?_
          refine j_callVi C (As := [.int (iI _), .int (iI _)]) (c_X0_debtBetween _ _ _ _ _ _ _ (by first | assumption | omega) (by first | assumption | omega) (by first | assumption | omega)) 2 nf_X0_debtBetween (jb := 0) rfl rfl wL_X5_165 wI_X0_debtBetween wSe_X0_X0_debtBetween wIn_X0 wC_X0_debtBetween rfl rfl (by decide) dX5_mutual_52 (Nat.le_of_ble_eq_true rfl) ⟨Nat.le_of_ble_eq_true rfl, Nat.le_of_ble_eq_true rfl⟩ (fun x52 u52 h52 => ?_)
          refine j_perm (pr_2_1 _ _) ?_
          have d2 := debS_bd hI k p
          refine j_mmin C rfl wL_X5_232 wS_J9_min_7cf53 wIn_J9 wC_J9_min_7cf53 ⟨by decide, Nat.le_of_ble_eq_true rfl, by decide, by decide⟩ dX5_mutual_55 (by omega) (by omega) (by omega) (by omega) (fun z55 hz55 => ?_)
          refine j_iadd C dX5_mutual_58 ?_
          refine j_istn_2 C dX5_mutual_59 rfl ?_
          refine j_iinc_3 C dX5_mutual_60 rfl ?_
          refine j_goto (tgt := 25) C dX5_mutual_63 (by decide) ?_
          exact ih25 _ _ (by omega) (by rw [sumZ_s _ hk.1, ← hs]; omega) (by omega)
    exact L25 _ _ _ (by omega) (by rfl) (Nat.lt_succ_self _)
  · exact absurd c8 (by rw [h5, if_pos (by omega)]; decide)
set_option maxHeartbeats 4000000 in
set_option maxRecDepth 100000 in
theorem c_X5_append (l : Launch) (D : va_G) (cA : Nat → ClassId) (q v : Nat) (b tb r m o d : Nat → Nat) (c : Int) (O t : Int → Int) (w : Int) (hO : 0 ≤ O 0 ∧ O 0 < 100) (hw : 0 ≤ w ∧ w ≤ 127) : MI (U := Unit) l yX5_append cX5_append 2 (some .int) (rmN 24 0 0) D cA [.ref (q), .int (iI w)] [prO q v b tb r m o c, orO o O, [(o 1, aJ (cA 0) 100 t)]] (fun x _ => x = O 0 + 1) (fun _ => [prO q v b tb r m o c, orO o (st O 0 (O 0 + 1)), [(o 1, aJ (cA 0) 100 (st t (O 0) w))]]) := by
  refine m_startI pn_X5 rfl (List.forall_mem_cons.mpr ⟨rfl, List.forall_mem_cons.mpr ⟨rfl, fun _ h => absurd h List.not_mem_nil⟩⟩) (Nat.le_of_ble_eq_true rfl) ?_
  intro K C e1 e2 e3 hin hR
  subst e1 e2 e3
  show J K 0 0 [prO q v b tb r m o c, orO o O, [(o 1, aJ ((kC K) 0) 100 t)]] [some (.ref (q)), some (.int (iI w))] 0 []
  refine j_iload_n C dX5_append_0 rfl ?_
  refine j_if_lt (tgt := 10) C dX5_append_1 (by decide) (by omega) (by omega) (fun c1 => ?_) (fun c1 => ?_)
  · exfalso; omega
  · refine j_iload_n C dX5_append_4 rfl ?_
    refine j_bipush C dX5_append_5 (by decide) ?_
    refine j_icmp_le (tgt := 20) C dX5_append_7 (by decide) (by omega) (by omega) (by omega) (by omega) (fun c7 => ?_) (fun c7 => ?_)
    · refine j_aload_n C dX5_append_20 rfl ?_
      refine j_get C 0 0 4 rfl rfl rfl wU_X5 (by decide) wF_X5_36 rfl dX5_append_21 ?_
      refine j_perm (pm_3_1 _ _ _) ?_
      refine j_callVi C (As := []) (c_X2_isFull _ _ _ _ _ (by first | assumption | omega)) 0 nf_X2_isFull (jb := 0) rfl rfl wL_X5_239 wI_X2_isFull wSe_X2_X2_isFull wIn_X2 wC_X2_isFull rfl rfl (by decide) dX5_append_24 (Nat.le_of_ble_eq_true rfl) ⟨Nat.le_of_ble_eq_true rfl, Nat.le_of_ble_eq_true rfl⟩ (fun x24 u24 h24 => ?_)
      refine j_perm (pr_3_1 _ _ _) ?_
      refine j_if_eq (tgt := 40) C dX5_append_27 (by decide) (by omega) (by omega) (fun c27 => ?_) (fun c27 => ?_)
      · refine j_aload_n C dX5_append_40 rfl ?_
        refine j_get C 0 0 4 rfl rfl rfl wU_X5 (by decide) wF_X5_36 rfl dX5_append_41 ?_
        refine j_iload_n C dX5_append_44 rfl ?_
        refine j_perm (pm_3_1_2 _ _ _) ?_
        refine j_callVv C (As := [.int (iI _)]) (c_X2_add _ _ _ _ _ _ _ (by first | assumption | omega)) 1 nf_X2_add (jb := 0) rfl rfl wL_X5_242 wI_X2_add wSe_X2_X2_add wIn_X2 wC_X2_add rfl rfl (by decide) dX5_append_45 (Nat.le_of_ble_eq_true rfl) ⟨Nat.le_of_ble_eq_true rfl, Nat.le_of_ble_eq_true rfl⟩ (fun u45 h45 => ?_)
        refine j_perm (pr_3_1_2 _ _ _) ?_
        refine j_aload_n C dX5_append_48 rfl ?_
        refine j_get C 0 0 4 rfl rfl rfl wU_X5 (by decide) wF_X5_36 rfl dX5_append_49 ?_
        refine j_getN C 1 0 1 rfl rfl rfl wU_X2 (by decide) wFN_X5_244 rfl dX5_append_52 ?_
        exact hR () dX5_append_55 (by rfl) rfl (Nat.le_of_ble_eq_true rfl) (Nat.le_of_ble_eq_true rfl)
      · exact absurd h24 (by rw [if_neg (by omega)]; exact c27)
    · exfalso; omega
set_option maxHeartbeats 4000000 in
set_option maxRecDepth 100000 in
theorem c_X5_clearText (l : Launch) (D : va_G) (cA : Nat → ClassId) (q v : Nat) (b tb r m o d : Nat → Nat) (c : Int) (O : Int → Int)  : MI (U := Unit) l yX5_clearText cX5_clearText 2 (some .int) (rmN 24 0 0) D cA [.ref (q)] [prO q v b tb r m o c, orO o O] (fun x _ => x = O 0) (fun _ => [prO q v b tb r m o c, orO o (st O 0 0)]) := by
  refine m_startI pn_X5 rfl (List.forall_mem_cons.mpr ⟨rfl, fun _ h => absurd h List.not_mem_nil⟩) (Nat.le_of_ble_eq_true rfl) ?_
  intro K C e1 e2 e3 hin hR
  subst e1 e2 e3
  show J K 0 0 [prO q v b tb r m o c, orO o O] [some (.ref (q)), none] 0 []
  refine j_aload_n C dX5_clearText_0 rfl ?_
  refine j_get C 0 0 4 rfl rfl rfl wU_X5 (by decide) wF_X5_36 rfl dX5_clearText_1 ?_
  refine j_getN C 1 0 1 rfl rfl rfl wU_X2 (by decide) wFN_X5_244 rfl dX5_clearText_4 ?_
  refine j_istn_1 C dX5_clearText_7 rfl ?_
  refine j_aload_n C dX5_clearText_8 rfl ?_
  refine j_get C 0 0 4 rfl rfl rfl wU_X5 (by decide) wF_X5_36 rfl dX5_clearText_9 ?_
  refine j_perm (pm_2_1 _ _) ?_
  refine j_callVv C (As := []) (c_X2_clear _ _ _ _ _ ) 0 nf_X2_clear (jb := 0) rfl rfl wL_X5_247 wI_X2_clear wSe_X2_X2_clear wIn_X2 wC_X2_clear rfl rfl (by decide) dX5_clearText_12 (Nat.le_of_ble_eq_true rfl) ⟨Nat.le_of_ble_eq_true rfl, Nat.le_of_ble_eq_true rfl⟩ (fun u12 h12 => ?_)
  refine j_perm (pr_2_1 _ _) ?_
  refine j_iload_n C dX5_clearText_15 rfl ?_
  exact hR () dX5_clearText_16 (by rfl) rfl (Nat.le_of_ble_eq_true rfl) (Nat.le_of_ble_eq_true rfl)
set_option maxHeartbeats 4000000 in
set_option maxRecDepth 100000 in
theorem c_X5_value (l : Launch) (D : va_G) (cA : Nat → ClassId) (q v : Nat) (b tb r m o d : Nat → Nat) (c : Int) (z : Int) (X F Nx f S : Int → Int) (w : Int) (hI : Inv S) (hw : 0 ≤ w ∧ w ≤ 10) : MI (U := (Int → Int) × (Int → Int) × (Int → Int) × (Int → Int) × Int) l yX5_value cX5_value 2 (some .int) (rmN 25 0 0) D cA [.ref (q), .int (iI w)] [prO q v b tb r m o c, rgO r (d 0) z, dbO d, [(d 1, aJ (cA 0) 49 X)], [(d 2, aJ (cA 0) 49 F)], [(d 3, aJ (cA 0) 40 Nx)], [(r 1, aJ (cA 0) 2365 f)], bk cA b S] (fun x _ => x = valS S w) (fun u => [prO q v b tb r m o c, rgO r (d 0) u.2.2.2.2, dbO d, [(d 1, aJ (cA 0) 49 u.1)], [(d 2, aJ (cA 0) 49 u.2.1)], [(d 3, aJ (cA 0) 40 u.2.2.1)], [(r 1, aJ (cA 0) 2365 u.2.2.2.1)], bk cA b S]) := by
  refine m_startI pn_X5 rfl (List.forall_mem_cons.mpr ⟨rfl, List.forall_mem_cons.mpr ⟨rfl, fun _ h => absurd h List.not_mem_nil⟩⟩) (Nat.le_of_ble_eq_true rfl) ?_
  intro K C e1 e2 e3 hin hR
  subst e1 e2 e3
  have hN := hI.2.1
  show J K 0 0 [prO q v b tb r m o c, rgO r (d 0) z, dbO d, [(d 1, aJ ((kC K) 0) 49 X)], [(d 2, aJ ((kC K) 0) 49 F)], [(d 3, aJ ((kC K) 0) 40 Nx)], [(r 1, aJ ((kC K) 0) 2365 f)], bk (kC K) b S] [some (.ref (q)), some (.int (iI w))] 0 []
  refine j_iload_n C dX5_value_0 rfl ?_
  by_cases q1_0 : w = 0
  · refine j_tabIn (tgt := 60) (v := 0) C dX5_value_1 q1_0 (by decide) (by decide) (by decide) (by decide) rfl (by decide) ?_
    refine j_aload_n C dX5_value_60 rfl ?_
    refine j_get C 0 0 0 rfl rfl rfl wU_X5 (by decide) wF_X5_12 rfl dX5_value_61 ?_
    refine j_getN C 7 0 0 rfl rfl rfl wU_X0 (by decide) wFN_X5_177 rfl dX5_value_64 ?_
    exact hR (X, F, Nx, f, z) dX5_value_67 (by rw [q1_0]; rfl) rfl (Nat.le_of_ble_eq_true rfl) (Nat.le_of_ble_eq_true rfl)
  by_cases q1_1 : w = 1
  · refine j_tabIn (tgt := 68) (v := 1) C dX5_value_1 q1_1 (by decide) (by decide) (by decide) (by decide) rfl (by decide) ?_
    refine j_aload_n C dX5_value_68 rfl ?_
    refine j_get C 0 0 0 rfl rfl rfl wU_X5 (by decide) wF_X5_12 rfl dX5_value_69 ?_
    refine j_getN C 7 0 1 rfl rfl rfl wU_X0 (by decide) wFN_X5_54 rfl dX5_value_72 ?_
    exact hR (X, F, Nx, f, z) dX5_value_75 (by rw [q1_1]; rfl) rfl (Nat.le_of_ble_eq_true rfl) (Nat.le_of_ble_eq_true rfl)
  by_cases q1_2 : w = 2
  · refine j_tabIn (tgt := 76) (v := 2) C dX5_value_1 q1_2 (by decide) (by decide) (by decide) (by decide) rfl (by decide) ?_
    refine j_aload_n C dX5_value_76 rfl ?_
    refine j_get C 0 0 0 rfl rfl rfl wU_X5 (by decide) wF_X5_12 rfl dX5_value_77 ?_
    refine j_perm (pm_8_7 _ _ _ _ _ _ _ _) ?_
    refine j_callVi C (As := []) (c_X0_countOpen _ _ _ _ _ (by first | assumption | omega)) 0 nf_X0_countOpen (jb := 0) rfl rfl wL_X5_180 wI_X0_countOpen wSe_X0_X0_countOpen wIn_X0 wC_X0_countOpen rfl rfl (by decide) dX5_value_80 (Nat.le_of_ble_eq_true rfl) ⟨Nat.le_of_ble_eq_true rfl, Nat.le_of_ble_eq_true rfl⟩ (fun x80 u80 h80 => ?_)
    refine j_perm (pr_8_7 _ _ _ _ _ _ _ _) ?_
    exact hR (X, F, Nx, f, z) dX5_value_83 (by rw [h80, q1_2]; rfl) rfl (Nat.le_of_ble_eq_true rfl) (Nat.le_of_ble_eq_true rfl)
  by_cases q1_3 : w = 3
  · refine j_tabIn (tgt := 84) (v := 3) C dX5_value_1 q1_3 (by decide) (by decide) (by decide) (by decide) rfl (by decide) ?_
    refine j_aload_n C dX5_value_84 rfl ?_
    refine j_get C 0 0 0 rfl rfl rfl wU_X5 (by decide) wF_X5_12 rfl dX5_value_85 ?_
    refine j_perm (pm_8_7 _ _ _ _ _ _ _ _) ?_
    refine j_callVi C (As := []) (c_X0_countDisputed _ _ _ _ _ (by first | assumption | omega)) 0 nf_X0_countDisputed (jb := 0) rfl rfl wL_X5_183 wI_X0_countDisputed wSe_X0_X0_countDisputed wIn_X0 wC_X0_countDisputed rfl rfl (by decide) dX5_value_88 (Nat.le_of_ble_eq_true rfl) ⟨Nat.le_of_ble_eq_true rfl, Nat.le_of_ble_eq_true rfl⟩ (fun x88 u88 h88 => ?_)
    refine j_perm (pr_8_7 _ _ _ _ _ _ _ _) ?_
    exact hR (X, F, Nx, f, z) dX5_value_91 (by rw [h88, q1_3]; rfl) rfl (Nat.le_of_ble_eq_true rfl) (Nat.le_of_ble_eq_true rfl)
  by_cases q1_4 : w = 4
  · refine j_tabIn (tgt := 92) (v := 4) C dX5_value_1 q1_4 (by decide) (by decide) (by decide) (by decide) rfl (by decide) ?_
    refine j_aload_n C dX5_value_92 rfl ?_
    refine j_get C 0 0 0 rfl rfl rfl wU_X5 (by decide) wF_X5_12 rfl dX5_value_93 ?_
    refine j_perm (pm_8_7 _ _ _ _ _ _ _ _) ?_
    refine j_callVi C (As := []) (c_X0_sumOfAmounts _ _ _ _ _ (by first | assumption | omega)) 0 nf_X0_sumOfAmounts (jb := 0) rfl rfl wL_X5_186 wI_X0_sumOfAmounts wSe_X0_X0_sumOfAmounts wIn_X0 wC_X0_sumOfAmounts rfl rfl (by decide) dX5_value_96 (Nat.le_of_ble_eq_true rfl) ⟨Nat.le_of_ble_eq_true rfl, Nat.le_of_ble_eq_true rfl⟩ (fun x96 u96 h96 => ?_)
    refine j_perm (pr_8_7 _ _ _ _ _ _ _ _) ?_
    exact hR (X, F, Nx, f, z) dX5_value_99 (by rw [h96, q1_4]; rfl) rfl (Nat.le_of_ble_eq_true rfl) (Nat.le_of_ble_eq_true rfl)
  by_cases q1_5 : w = 5
  · refine j_tabIn (tgt := 100) (v := 5) C dX5_value_1 q1_5 (by decide) (by decide) (by decide) (by decide) rfl (by decide) ?_
    refine j_aload_n C dX5_value_100 rfl ?_
    refine j_get C 0 0 0 rfl rfl rfl wU_X5 (by decide) wF_X5_12 rfl dX5_value_101 ?_
    refine j_perm (pm_8_7 _ _ _ _ _ _ _ _) ?_
    refine j_callVi C (As := []) (c_X0_costOfAll _ _ _ _ _ (by first | assumption | omega)) 0 nf_X0_costOfAll (jb := 0) rfl rfl wL_X5_189 wI_X0_costOfAll wSe_X0_X0_costOfAll wIn_X0 wC_X0_costOfAll rfl rfl (by decide) dX5_value_104 (Nat.le_of_ble_eq_true rfl) ⟨Nat.le_of_ble_eq_true rfl, Nat.le_of_ble_eq_true rfl⟩ (fun x104 u104 h104 => ?_)
    refine j_perm (pr_8_7 _ _ _ _ _ _ _ _) ?_
    exact hR (X, F, Nx, f, z) dX5_value_107 (by rw [h104, q1_5]; rfl) rfl (Nat.le_of_ble_eq_true rfl) (Nat.le_of_ble_eq_true rfl)
  by_cases q1_6 : w = 6
  · refine j_tabIn (tgt := 108) (v := 6) C dX5_value_1 q1_6 (by decide) (by decide) (by decide) (by decide) rfl (by decide) ?_
    refine j_aload_n C dX5_value_108 rfl ?_
    refine j_perm (pm_8_0_1_2_3_4_5_6_7 _ _ _ _ _ _ _ _) ?_
    refine j_callVi C (As := []) (c_X5_countRings _ _ _ _ _ _ _ _ _ _ (d) _ _ _ _ _ _ _ (by first | assumption | omega)) 0 nf_X5_countRings (jb := 0) rfl rfl wL_X5_112 wI_X5_countRings wSe_X5_X5_countRings wIn_X5 wC_X5_countRings rfl rfl (by decide) dX5_value_109 (Nat.le_of_ble_eq_true rfl) ⟨Nat.le_of_ble_eq_true rfl, Nat.le_of_ble_eq_true rfl⟩ (fun x109 u109 h109 => ?_)
    refine j_perm (pr_8_0_1_2_3_4_5_6_7 _ _ _ _ _ _ _ _) ?_
    exact hR (u109.1, u109.2.1, u109.2.2.1, u109.2.2.2, ((RS S).length : Int)) dX5_value_112 (by rw [h109.1, q1_6]; rfl) rfl (Nat.le_of_ble_eq_true rfl) (Nat.le_of_ble_eq_true rfl)
  by_cases q1_7 : w = 7
  · refine j_tabIn (tgt := 113) (v := 7) C dX5_value_1 q1_7 (by decide) (by decide) (by decide) (by decide) rfl (by decide) ?_
    refine j_aload_n C dX5_value_113 rfl ?_
    refine j_get C 0 0 0 rfl rfl rfl wU_X5 (by decide) wF_X5_12 rfl dX5_value_114 ?_
    refine j_getN C 7 0 2 rfl rfl rfl wU_X0 (by decide) wFN_X5_192 rfl dX5_value_117 ?_
    exact hR (X, F, Nx, f, z) dX5_value_120 (by rw [q1_7]; rfl) rfl (Nat.le_of_ble_eq_true rfl) (Nat.le_of_ble_eq_true rfl)
  by_cases q1_8 : w = 8
  · refine j_tabIn (tgt := 121) (v := 8) C dX5_value_1 q1_8 (by decide) (by decide) (by decide) (by decide) rfl (by decide) ?_
    refine j_aload_n C dX5_value_121 rfl ?_
    refine j_get C 0 0 0 rfl rfl rfl wU_X5 (by decide) wF_X5_12 rfl dX5_value_122 ?_
    refine j_getN C 7 0 3 rfl rfl rfl wU_X0 (by decide) wFN_X5_195 rfl dX5_value_125 ?_
    exact hR (X, F, Nx, f, z) dX5_value_128 (by rw [q1_8]; rfl) rfl (Nat.le_of_ble_eq_true rfl) (Nat.le_of_ble_eq_true rfl)
  by_cases q1_9 : w = 9
  · refine j_tabIn (tgt := 129) (v := 9) C dX5_value_1 q1_9 (by decide) (by decide) (by decide) (by decide) rfl (by decide) ?_
    refine j_aload_n C dX5_value_129 rfl ?_
    refine j_get C 0 0 0 rfl rfl rfl wU_X5 (by decide) wF_X5_12 rfl dX5_value_130 ?_
    refine j_getN C 7 0 4 rfl rfl rfl wU_X0 (by decide) wFN_X5_198 rfl dX5_value_133 ?_
    exact hR (X, F, Nx, f, z) dX5_value_136 (by rw [q1_9]; rfl) rfl (Nat.le_of_ble_eq_true rfl) (Nat.le_of_ble_eq_true rfl)
  by_cases q1_10 : w = 10
  · refine j_tabIn (tgt := 137) (v := 10) C dX5_value_1 q1_10 (by decide) (by decide) (by decide) (by decide) rfl (by decide) ?_
    refine j_aload_n C dX5_value_137 rfl ?_
    refine j_get C 0 0 0 rfl rfl rfl wU_X5 (by decide) wF_X5_12 rfl dX5_value_138 ?_
    refine j_perm (pm_8_7 _ _ _ _ _ _ _ _) ?_
    refine j_callVi C (As := []) (c_X0_sumOfGains _ _ _ _ _ (by first | assumption | omega)) 0 nf_X0_sumOfGains (jb := 0) rfl rfl wL_X5_201 wI_X0_sumOfGains wSe_X0_X0_sumOfGains wIn_X0 wC_X0_sumOfGains rfl rfl (by decide) dX5_value_141 (Nat.le_of_ble_eq_true rfl) ⟨Nat.le_of_ble_eq_true rfl, Nat.le_of_ble_eq_true rfl⟩ (fun x141 u141 h141 => ?_)
    refine j_perm (pr_8_7 _ _ _ _ _ _ _ _) ?_
    exact hR (X, F, Nx, f, z) dX5_value_144 (by rw [h141, q1_10]; rfl) rfl (Nat.le_of_ble_eq_true rfl) (Nat.le_of_ble_eq_true rfl)
  exfalso; omega
set_option maxHeartbeats 4000000 in
set_option maxRecDepth 100000 in
theorem c_X5_promiseOf (l : Launch) (D : va_G) (cA : Nat → ClassId) (q v : Nat) (b tb r m o d : Nat → Nat) (c : Int) (S : Int → Int) (i w : Int) (hI : Inv S) (hi : 0 ≤ i ∧ i < S 1) (hw : 0 ≤ w ∧ w ≤ 7) : MI (U := Unit) l yX5_promiseOf cX5_promiseOf 3 (some .int) (rmN 24 0 0) D cA [.ref (q), .int (iI i), .int (iI w)] [prO q v b tb r m o c, bk cA b S] (fun x _ => x = S (5 + 8 * i + w)) (fun _ => [prO q v b tb r m o c, bk cA b S]) := by
  refine m_startI pn_X5 rfl (List.forall_mem_cons.mpr ⟨rfl, List.forall_mem_cons.mpr ⟨rfl, List.forall_mem_cons.mpr ⟨rfl, fun _ h => absurd h List.not_mem_nil⟩⟩⟩) (Nat.le_of_ble_eq_true rfl) ?_
  intro K C e1 e2 e3 hin hR
  subst e1 e2 e3
  have hN := hI.2.1
  have f := hI.2.2 i hi.1 hi.2
  show J K 0 0 [prO q v b tb r m o c, bk (kC K) b S] [some (.ref (q)), some (.int (iI i)), some (.int (iI w))] 0 []
  refine j_aload_n C dX5_promiseOf_0 rfl ?_
  refine j_get C 0 0 0 rfl rfl rfl wU_X5 (by decide) wF_X5_12 rfl dX5_promiseOf_1 ?_
  refine j_iload_n C dX5_promiseOf_4 rfl ?_
  refine j_perm (pm_2_1 _ _) ?_
  refine j_callVi C (As := [.int (iI _)]) (c_X0_holds _ _ _ _ _ _ (by first | assumption | omega) (by first | assumption | omega)) 1 nf_X0_holds (jb := 0) rfl rfl wL_X5_90 wI_X0_holds wSe_X0_X0_holds wIn_X0 wC_X0_holds rfl rfl (by decide) dX5_promiseOf_5 (Nat.le_of_ble_eq_true rfl) ⟨Nat.le_of_ble_eq_true rfl, Nat.le_of_ble_eq_true rfl⟩ (fun x5 u5 h5 => ?_)
  refine j_perm (pr_2_1 _ _) ?_
  refine j_if_ne (tgt := 21) C dX5_promiseOf_8 (by decide) (by omega) (by omega) (fun c8 => ?_) (fun c8 => ?_)
  · refine j_iload_n C dX5_promiseOf_21 rfl ?_
    by_cases q22_0 : w = 0
    · refine j_tabIn (tgt := 68) (v := 0) C dX5_promiseOf_22 q22_0 (by decide) (by decide) (by decide) (by decide) rfl (by decide) ?_
      refine j_aload_n C dX5_promiseOf_68 rfl ?_
      refine j_get C 0 0 0 rfl rfl rfl wU_X5 (by decide) wF_X5_12 rfl dX5_promiseOf_69 ?_
      refine j_getN C 1 0 5 rfl rfl rfl wU_X0 (by decide) wFN_X5_145 rfl dX5_promiseOf_72 ?_
      refine j_iload_n C dX5_promiseOf_75 rfl ?_
      refine j_iald C 1 1 rfl rfl dX5_promiseOf_76 (by decide) (by omega) (by omega) ?_
      exact hR () dX5_promiseOf_77 (by have e : fr S i = S (5 + 8 * i + w) := (by unfold fr; congr 1; omega); exact e) rfl (Nat.le_of_ble_eq_true rfl) (Nat.le_of_ble_eq_true rfl)
    by_cases q22_1 : w = 1
    · refine j_tabIn (tgt := 78) (v := 1) C dX5_promiseOf_22 q22_1 (by decide) (by decide) (by decide) (by decide) rfl (by decide) ?_
      refine j_aload_n C dX5_promiseOf_78 rfl ?_
      refine j_get C 0 0 0 rfl rfl rfl wU_X5 (by decide) wF_X5_12 rfl dX5_promiseOf_79 ?_
      refine j_getN C 1 0 6 rfl rfl rfl wU_X0 (by decide) wFN_X5_148 rfl dX5_promiseOf_82 ?_
      refine j_iload_n C dX5_promiseOf_85 rfl ?_
      refine j_iald C 1 2 rfl rfl dX5_promiseOf_86 (by decide) (by omega) (by omega) ?_
      exact hR () dX5_promiseOf_87 (by have e : tO S i = S (5 + 8 * i + w) := (by unfold tO; congr 1; omega); exact e) rfl (Nat.le_of_ble_eq_true rfl) (Nat.le_of_ble_eq_true rfl)
    by_cases q22_2 : w = 2
    · refine j_tabIn (tgt := 88) (v := 2) C dX5_promiseOf_22 q22_2 (by decide) (by decide) (by decide) (by decide) rfl (by decide) ?_
      refine j_aload_n C dX5_promiseOf_88 rfl ?_
      refine j_get C 0 0 0 rfl rfl rfl wU_X5 (by decide) wF_X5_12 rfl dX5_promiseOf_89 ?_
      refine j_getN C 1 0 7 rfl rfl rfl wU_X0 (by decide) wFN_X5_97 rfl dX5_promiseOf_92 ?_
      refine j_iload_n C dX5_promiseOf_95 rfl ?_
      refine j_iald C 1 3 rfl rfl dX5_promiseOf_96 (by decide) (by omega) (by omega) ?_
      exact hR () dX5_promiseOf_97 (by have e : am S i = S (5 + 8 * i + w) := (by unfold am; congr 1; omega); exact e) rfl (Nat.le_of_ble_eq_true rfl) (Nat.le_of_ble_eq_true rfl)
    by_cases q22_3 : w = 3
    · refine j_tabIn (tgt := 98) (v := 3) C dX5_promiseOf_22 q22_3 (by decide) (by decide) (by decide) (by decide) rfl (by decide) ?_
      refine j_aload_n C dX5_promiseOf_98 rfl ?_
      refine j_get C 0 0 0 rfl rfl rfl wU_X5 (by decide) wF_X5_12 rfl dX5_promiseOf_99 ?_
      refine j_getN C 1 0 8 rfl rfl rfl wU_X0 (by decide) wFN_X5_151 rfl dX5_promiseOf_102 ?_
      refine j_iload_n C dX5_promiseOf_105 rfl ?_
      refine j_iald C 1 4 rfl rfl dX5_promiseOf_106 (by decide) (by omega) (by omega) ?_
      exact hR () dX5_promiseOf_107 (by have e : ra S i = S (5 + 8 * i + w) := (by unfold ra; congr 1; omega); exact e) rfl (Nat.le_of_ble_eq_true rfl) (Nat.le_of_ble_eq_true rfl)
    by_cases q22_4 : w = 4
    · refine j_tabIn (tgt := 108) (v := 4) C dX5_promiseOf_22 q22_4 (by decide) (by decide) (by decide) (by decide) rfl (by decide) ?_
      refine j_aload_n C dX5_promiseOf_108 rfl ?_
      refine j_get C 0 0 0 rfl rfl rfl wU_X5 (by decide) wF_X5_12 rfl dX5_promiseOf_109 ?_
      refine j_getN C 1 0 12 rfl rfl rfl wU_X0 (by decide) wFN_X5_116 rfl dX5_promiseOf_112 ?_
      refine j_iload_n C dX5_promiseOf_115 rfl ?_
      refine j_zald C 1 8 rfl rfl dX5_promiseOf_116 (by decide) (by omega) (by omega) ?_
      refine j_if_eq (tgt := 124) C dX5_promiseOf_117 (by decide) (by omega) (by omega) (fun c117 => ?_) (fun c117 => ?_)
      · refine j_iconst C dX5_promiseOf_124 ?_
        exact hR () dX5_promiseOf_125 (by have e : di S i = S (5 + 8 * i + w) := (by unfold di; congr 1; omega); omega) rfl (Nat.le_of_ble_eq_true rfl) (Nat.le_of_ble_eq_true rfl)
      · refine j_iconst C dX5_promiseOf_120 ?_
        refine j_goto (tgt := 125) C dX5_promiseOf_121 (by decide) ?_
        exact hR () dX5_promiseOf_125 (by have e : di S i = S (5 + 8 * i + w) := (by unfold di; congr 1; omega); omega) rfl (Nat.le_of_ble_eq_true rfl) (Nat.le_of_ble_eq_true rfl)
    by_cases q22_5 : w = 5
    · refine j_tabIn (tgt := 126) (v := 5) C dX5_promiseOf_22 q22_5 (by decide) (by decide) (by decide) (by decide) rfl (by decide) ?_
      refine j_aload_n C dX5_promiseOf_126 rfl ?_
      refine j_get C 0 0 0 rfl rfl rfl wU_X5 (by decide) wF_X5_12 rfl dX5_promiseOf_127 ?_
      refine j_getN C 1 0 9 rfl rfl rfl wU_X0 (by decide) wFN_X5_154 rfl dX5_promiseOf_130 ?_
      refine j_iload_n C dX5_promiseOf_133 rfl ?_
      refine j_iald C 1 5 rfl rfl dX5_promiseOf_134 (by decide) (by omega) (by omega) ?_
      exact hR () dX5_promiseOf_135 (by have e : fi S i = S (5 + 8 * i + w) := (by unfold fi; congr 1; omega); exact e) rfl (Nat.le_of_ble_eq_true rfl) (Nat.le_of_ble_eq_true rfl)
    by_cases q22_6 : w = 6
    · refine j_tabIn (tgt := 136) (v := 6) C dX5_promiseOf_22 q22_6 (by decide) (by decide) (by decide) (by decide) rfl (by decide) ?_
      refine j_aload_n C dX5_promiseOf_136 rfl ?_
      refine j_get C 0 0 0 rfl rfl rfl wU_X5 (by decide) wF_X5_12 rfl dX5_promiseOf_137 ?_
      refine j_getN C 1 0 10 rfl rfl rfl wU_X0 (by decide) wFN_X5_157 rfl dX5_promiseOf_140 ?_
      refine j_iload_n C dX5_promiseOf_143 rfl ?_
      refine j_iald C 1 6 rfl rfl dX5_promiseOf_144 (by decide) (by omega) (by omega) ?_
      exact hR () dX5_promiseOf_145 (by have e : pa S i = S (5 + 8 * i + w) := (by unfold pa; congr 1; omega); exact e) rfl (Nat.le_of_ble_eq_true rfl) (Nat.le_of_ble_eq_true rfl)
    by_cases q22_7 : w = 7
    · refine j_tabIn (tgt := 146) (v := 7) C dX5_promiseOf_22 q22_7 (by decide) (by decide) (by decide) (by decide) rfl (by decide) ?_
      refine j_aload_n C dX5_promiseOf_146 rfl ?_
      refine j_get C 0 0 0 rfl rfl rfl wU_X5 (by decide) wF_X5_12 rfl dX5_promiseOf_147 ?_
      refine j_getN C 1 0 11 rfl rfl rfl wU_X0 (by decide) wFN_X5_160 rfl dX5_promiseOf_150 ?_
      refine j_iload_n C dX5_promiseOf_153 rfl ?_
      refine j_iald C 1 7 rfl rfl dX5_promiseOf_154 (by decide) (by omega) (by omega) ?_
      exact hR () dX5_promiseOf_155 (by have e : re S i = S (5 + 8 * i + w) := (by unfold re; congr 1; omega); exact e) rfl (Nat.le_of_ble_eq_true rfl) (Nat.le_of_ble_eq_true rfl)
    exfalso; omega
  · exact absurd c8 (by rw [h5, if_pos (by omega)]; decide)
