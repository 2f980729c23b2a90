/-! the class: its object; what is asked and not refused -/
def prO (q v : Nat) (b tb r m o : Nat → Nat) (c : Int) : va_W := [(q, .inr (5, [.ref (b 0), .ref (tb 0), .ref (r 0), .ref (m 0), .ref (o 0), .ref v, .int (iI c)]))]
theorem prO_put {q v : Nat} {b tb r m o : Nat → Nat} {c x : Int} : (prO q v b tb r m o c).set 0 (q, .inr (5, ([.ref (b 0), .ref (tb 0), .ref (r 0), .ref (m 0), .ref (o 0), .ref v, .int (iI c)] : List Value).set 6 (.int (iI x)))) = prO q v b tb r m o x := rfl
def mutS (S : Int → Int) (p : Int) : Int := sumZ (fun k => min (debS S p k) (debS S k p)) (S 0)
def valS (S : Int → Int) (w : Int) : Int := if w = 0 then S 0 else if w = 1 then S 1 else if w = 2 then opnS S else if w = 3 then disS S else if w = 4 then allS S else if w = 5 then cosS S else if w = 6 then ((RS S).length : Int) else if w = 7 then S 2 else if w = 8 then S 3 else if w = 9 then S 4 else gainS S
theorem key_s {S : Int → Int} {n : Nat} {i b m : Int} : key S (n + 1) i b m = if 0 < am S i ∧ di S i = 0 then (if b = -1 ∨ rwO S i < m then key S n (i + 1) i (rwO S i) else key S n (i + 1) b m) else key S n (i + 1) b m := rfl
theorem pm_2_1 (B0 B1 : va_W) : [B0, B1].Perm ([B1] ++ [B0]) := List.perm_middle (l₁ := [B0]) (a := B1) (l₂ := [])
theorem pr_2_1 (B0 B1 : va_W) : ([B1] ++ [B0]).Perm [B0, B1] := (pm_2_1 B0 B1).symm
theorem pm_8_0_1_2_3_4_5_6_7 (B0 B1 B2 B3 B4 B5 B6 B7 : va_W) : [B0, B1, B2, B3, B4, B5, B6, B7].Perm ([B0, B1, B2, B3, B4, B5, B6, B7] ++ []) := List.Perm.trans (List.Perm.refl _) (List.Perm.trans (List.Perm.cons _ (List.Perm.refl _)) (List.Perm.trans (List.Perm.cons _ (List.Perm.cons _ (List.Perm.refl _))) (List.Perm.trans (List.Perm.cons _ (List.Perm.cons _ (List.Perm.cons _ (List.Perm.refl _)))) (List.Perm.trans (List.Perm.cons _ (List.Perm.cons _ (List.Perm.cons _ (List.Perm.cons _ (List.Perm.refl _))))) (List.Perm.trans (List.Perm.cons _ (List.Perm.cons _ (List.Perm.cons _ (List.Perm.cons _ (List.Perm.cons _ (List.Perm.refl _)))))) (List.Perm.trans (List.Perm.cons _ (List.Perm.cons _ (List.Perm.cons _ (List.Perm.cons _ (List.Perm.cons _ (List.Perm.cons _ (List.Perm.refl _))))))) (List.Perm.cons _ (List.Perm.cons _ (List.Perm.cons _ (List.Perm.cons _ (List.Perm.cons _ (List.Perm.cons _ (List.Perm.cons _ (List.Perm.refl _))))))))))))))
theorem pr_8_0_1_2_3_4_5_6_7 (B0 B1 B2 B3 B4 B5 B6 B7 : va_W) : ([B0, B1, B2, B3, B4, B5, B6, B7] ++ []).Perm [B0, B1, B2, B3, B4, B5, B6, B7] := (pm_8_0_1_2_3_4_5_6_7 B0 B1 B2 B3 B4 B5 B6 B7).symm
theorem pm_8_1_2_3_4_5_6_7 (B0 B1 B2 B3 B4 B5 B6 B7 : va_W) : [B0, B1, B2, B3, B4, B5, B6, B7].Perm ([B1, B2, B3, B4, B5, B6, B7] ++ [B0]) := List.Perm.trans (List.perm_middle (l₁ := [B0]) (a := B1) (l₂ := [B2, B3, B4, B5, B6, B7])) (List.Perm.trans (List.Perm.cons _ (List.perm_middle (l₁ := [B0]) (a := B2) (l₂ := [B3, B4, B5, B6, B7]))) (List.Perm.trans (List.Perm.cons _ (List.Perm.cons _ (List.perm_middle (l₁ := [B0]) (a := B3) (l₂ := [B4, B5, B6, B7])))) (List.Perm.trans (List.Perm.cons _ (List.Perm.cons _ (List.Perm.cons _ (List.perm_middle (l₁ := [B0]) (a := B4) (l₂ := [B5, B6, B7]))))) (List.Perm.trans (List.Perm.cons _ (List.Perm.cons _ (List.Perm.cons _ (List.Perm.cons _ (List.perm_middle (l₁ := [B0]) (a := B5) (l₂ := [B6, B7])))))) (List.Perm.trans (List.Perm.cons _ (List.Perm.cons _ (List.Perm.cons _ (List.Perm.cons _ (List.Perm.cons _ (List.perm_middle (l₁ := [B0]) (a := B6) (l₂ := [B7]))))))) (List.Perm.cons _ (List.Perm.cons _ (List.Perm.cons _ (List.Perm.cons _ (List.Perm.cons _ (List.Perm.cons _ (List.perm_middle (l₁ := [B0]) (a := B7) (l₂ := [])))))))))))))
theorem pr_8_1_2_3_4_5_6_7 (B0 B1 B2 B3 B4 B5 B6 B7 : va_W) : ([B1, B2, B3, B4, B5, B6, B7] ++ [B0]).Perm [B0, B1, B2, B3, B4, B5, B6, B7] := (pm_8_1_2_3_4_5_6_7 B0 B1 B2 B3 B4 B5 B6 B7).symm
theorem pm_8_7 (B0 B1 B2 B3 B4 B5 B6 B7 : va_W) : [B0, B1, B2, B3, B4, B5, B6, B7].Perm ([B7] ++ [B0, B1, B2, B3, B4, B5, B6]) := List.perm_middle (l₁ := [B0, B1, B2, B3, B4, B5, B6]) (a := B7) (l₂ := [])
theorem pr_8_7 (B0 B1 B2 B3 B4 B5 B6 B7 : va_W) : ([B7] ++ [B0, B1, B2, B3, B4, B5, B6]).Perm [B0, B1, B2, B3, B4, B5, B6, B7] := (pm_8_7 B0 B1 B2 B3 B4 B5 B6 B7).symm
set_option maxHeartbeats 4000000 in
set_option maxRecDepth 100000 in
theorem c_X5_countRings (l : Launch) (D : va_G) (cA : Nat → ClassId) (q v : Nat) (b tb r m o d : Nat → Nat) (c : Int) (z : Int) (X F Nx f S : Int → Int) (hI : Inv S) : MI (U := (Int → Int) × (Int → Int) × (Int → Int) × (Int → Int)) l yX5_countRings cX5_countRings 1 (some .int) (rmN 24 0 0) D cA [.ref (q)] [prO q v b tb r m o c, rgO r (d 0) z, dbO d, [(d 1, aJ (cA 0) 49 X)], [(d 2, aJ (cA 0) 49 F)], [(d 3, aJ (cA 0) 40 Nx)], [(r 1, aJ (cA 0) 2365 f)], bk cA b S] (fun x u => x = ((RS S).length : Int) ∧ Fnd S u.1 u.2.1 u.2.2.1 u.2.2.2 ((RS S).length : Int)) (fun u => [prO q v b tb r m o c, rgO r (d 0) ((RS S).length : Int), dbO d, [(d 1, aJ (cA 0) 49 u.1)], [(d 2, aJ (cA 0) 49 u.2.1)], [(d 3, aJ (cA 0) 40 u.2.2.1)], [(r 1, aJ (cA 0) 2365 u.2.2.2)], bk cA b S]) := by
  refine m_startI pn_X5 rfl (List.forall_mem_cons.mpr ⟨rfl, fun _ h => absurd h List.not_mem_nil⟩) (Nat.le_of_ble_eq_true rfl) ?_
  intro K C e1 e2 e3 hin hR
  subst e1 e2 e3
  show J K 0 0 [prO q v b tb r m o c, rgO r (d 0) z, dbO d, [(d 1, aJ ((kC K) 0) 49 X)], [(d 2, aJ ((kC K) 0) 49 F)], [(d 3, aJ ((kC K) 0) 40 Nx)], [(r 1, aJ ((kC K) 0) 2365 f)], bk (kC K) b S] [some (.ref (q))] 0 []
  refine j_aload_n C dX5_countRings_0 rfl ?_
  refine j_get C 0 0 2 rfl rfl rfl wU_X5 (by decide) wF_X5_22 rfl dX5_countRings_1 ?_
  refine j_aload_n C dX5_countRings_4 rfl ?_
  refine j_get C 0 0 0 rfl rfl rfl wU_X5 (by decide) wF_X5_12 rfl dX5_countRings_5 ?_
  refine j_perm (pm_8_1_2_3_4_5_6_7 _ _ _ _ _ _ _ _) ?_
  refine j_callVv C (As := [.ref _]) (c_X4_find _ _ _ _ _ _ _ _ _ _ _ _ (by first | assumption | omega)) 1 nf_X4_find (jb := 0) rfl rfl wL_X5_209 wI_X4_find wSe_X4_X4_find wIn_X4 wC_X4_find rfl rfl (by decide) dX5_countRings_8 (Nat.le_of_ble_eq_true rfl) ⟨Nat.le_of_ble_eq_true rfl, Nat.le_of_ble_eq_true rfl⟩ (fun u8 h8 => ?_)
  refine j_perm (pr_8_1_2_3_4_5_6_7 _ _ _ _ _ _ _ _) ?_
  obtain h8 := h8
  refine j_aload_n C dX5_countRings_11 rfl ?_
  refine j_get C 0 0 2 rfl rfl rfl wU_X5 (by decide) wF_X5_22 rfl dX5_countRings_12 ?_
  refine j_getN C 1 0 3 rfl rfl rfl wU_X4 (by decide) wFN_X5_280 rfl dX5_countRings_15 ?_
  exact hR u8 dX5_countRings_18 (by exact ⟨rfl, h8⟩) rfl (Nat.le_of_ble_eq_true rfl) (Nat.le_of_ble_eq_true rfl)
set_option maxHeartbeats 4000000 in
set_option maxRecDepth 100000 in
theorem c_X5_bestRing (l : Launch) (D : va_G) (cA : Nat → ClassId) (q v : Nat) (b tb r m o d : Nat → Nat) (c : Int) (z : Int) (X F Nx f S : Int → Int) (hI : Inv S) : MI (U := (Int → Int) × (Int → Int) × (Int → Int) × (Int → Int)) l yX5_bestRing cX5_bestRing 1 (some .int) (rmN 24 0 0) D cA [.ref (q)] [prO q v b tb r m o c, rgO r (d 0) z, dbO d, [(d 1, aJ (cA 0) 49 X)], [(d 2, aJ (cA 0) 49 F)], [(d 3, aJ (cA 0) 40 Nx)], [(r 1, aJ (cA 0) 2365 f)], bk cA b S] (fun x u => x = best S) (fun u => [prO q v b tb r m o c, rgO r (d 0) ((RS S).length : Int), dbO d, [(d 1, aJ (cA 0) 49 u.1)], [(d 2, aJ (cA 0) 49 u.2.1)], [(d 3, aJ (cA 0) 40 u.2.2.1)], [(r 1, aJ (cA 0) 2365 u.2.2.2)], bk cA b S]) := by
  refine m_startI pn_X5 rfl (List.forall_mem_cons.mpr ⟨rfl, fun _ h => absurd h List.not_mem_nil⟩) (Nat.le_of_ble_eq_true rfl) ?_
  intro K C e1 e2 e3 hin hR
  subst e1 e2 e3
  show J K 0 0 [prO q v b tb r m o c, rgO r (d 0) z, dbO d, [(d 1, aJ ((kC K) 0) 49 X)], [(d 2, aJ ((kC K) 0) 49 F)], [(d 3, aJ ((kC K) 0) 40 Nx)], [(r 1, aJ ((kC K) 0) 2365 f)], bk (kC K) b S] [some (.ref (q))] 0 []
  refine j_aload_n C dX5_bestRing_0 rfl ?_
  refine j_get C 0 0 2 rfl rfl rfl wU_X5 (by decide) wF_X5_22 rfl dX5_bestRing_1 ?_
  refine j_aload_n C dX5_bestRing_4 rfl ?_
  refine j_get C 0 0 0 rfl rfl rfl wU_X5 (by decide) wF_X5_12 rfl dX5_bestRing_5 ?_
  refine j_perm (pm_8_1_2_3_4_5_6_7 _ _ _ _ _ _ _ _) ?_
  refine j_callVv C (As := [.ref _]) (c_X4_find _ _ _ _ _ _ _ _ _ _ _ _ (by first | assumption | omega)) 1 nf_X4_find (jb := 0) rfl rfl wL_X5_209 wI_X4_find wSe_X4_X4_find wIn_X4 wC_X4_find rfl rfl (by decide) dX5_bestRing_8 (Nat.le_of_ble_eq_true rfl) ⟨Nat.le_of_ble_eq_true rfl, Nat.le_of_ble_eq_true rfl⟩ (fun u8 h8 => ?_)
  refine j_perm (pr_8_1_2_3_4_5_6_7 _ _ _ _ _ _ _ _) ?_
  obtain h8 := h8
  refine j_aload_n C dX5_bestRing_11 rfl ?_
  refine j_get C 0 0 2 rfl rfl rfl wU_X5 (by decide) wF_X5_22 rfl dX5_bestRing_12 ?_
  refine j_aload_n C dX5_bestRing_15 rfl ?_
  refine j_get C 0 0 0 rfl rfl rfl wU_X5 (by decide) wF_X5_12 rfl dX5_bestRing_16 ?_
  refine j_perm (pm_8_1_2_3_4_5_6_7 _ _ _ _ _ _ _ _) ?_
  refine j_callVi C (As := [.ref _]) (c_X4_best _ _ _ _ _ _ _ _ _ _ _ _ (by first | assumption | omega) (by exact h8)) 1 nf_X4_best (jb := 0) rfl rfl wL_X5_213 wI_X4_best wSe_X4_X4_best wIn_X4 wC_X4_best rfl rfl (by decide) dX5_bestRing_19 (Nat.le_of_ble_eq_true rfl) ⟨Nat.le_of_ble_eq_true rfl, Nat.le_of_ble_eq_true rfl⟩ (fun x19 u19 h19 => ?_)
  refine j_perm (pr_8_1_2_3_4_5_6_7 _ _ _ _ _ _ _ _) ?_
  exact hR u8 dX5_bestRing_22 (by first | trivial | omega | rfl) rfl (Nat.le_of_ble_eq_true rfl) (Nat.le_of_ble_eq_true rfl)
set_option maxHeartbeats 4000000 in
set_option maxRecDepth 100000 in
theorem c_X5_value (l : Launch) (D : va_G) (cA : Nat → ClassId) (q v : Nat) (b tb r m o d : Nat → Nat) (c : Int) (z : Int) (X F Nx f S : Int → Int) (w : Int) (hI : Inv S) (hw : 0 ≤ w ∧ w ≤ 10) : MI (U := (Int → Int) × (Int → Int) × (Int → Int) × (Int → Int) × Int) l yX5_value cX5_value 2 (some .int) (rmN 25 0 0) D cA [.ref (q), .int (iI w)] [prO q v b tb r m o c, rgO r (d 0) z, dbO d, [(d 1, aJ (cA 0) 49 X)], [(d 2, aJ (cA 0) 49 F)], [(d 3, aJ (cA 0) 40 Nx)], [(r 1, aJ (cA 0) 2365 f)], bk cA b S] (fun x _ => x = valS S w) (fun u => [prO q v b tb r m o c, rgO r (d 0) u.2.2.2.2, dbO d, [(d 1, aJ (cA 0) 49 u.1)], [(d 2, aJ (cA 0) 49 u.2.1)], [(d 3, aJ (cA 0) 40 u.2.2.1)], [(r 1, aJ (cA 0) 2365 u.2.2.2.1)], bk cA b S]) := by
  refine m_startI pn_X5 rfl (List.forall_mem_cons.mpr ⟨rfl, List.forall_mem_cons.mpr ⟨rfl, fun _ h => absurd h List.not_mem_nil⟩⟩) (Nat.le_of_ble_eq_true rfl) ?_
  intro K C e1 e2 e3 hin hR
  subst e1 e2 e3
  have hN := hI.2.1
  show J K 0 0 [prO q v b tb r m o c, rgO r (d 0) z, dbO d, [(d 1, aJ ((kC K) 0) 49 X)], [(d 2, aJ ((kC K) 0) 49 F)], [(d 3, aJ ((kC K) 0) 40 Nx)], [(r 1, aJ ((kC K) 0) 2365 f)], bk (kC K) b S] [some (.ref (q)), some (.int (iI w))] 0 []
  refine j_iload_n C dX5_value_0 rfl ?_
  by_cases q1_0 : w = 0
  · refine j_tabIn (tgt := 60) (v := 0) C dX5_value_1 q1_0 (by decide) (by decide) (by decide) (by decide) rfl (by decide) ?_
    refine j_aload_n C dX5_value_60 rfl ?_
    refine j_get C 0 0 0 rfl rfl rfl wU_X5 (by decide) wF_X5_12 rfl dX5_value_61 ?_
    refine j_getN C 7 0 0 rfl rfl rfl wU_X0 (by decide) wFN_X5_177 rfl dX5_value_64 ?_
    exact hR (X, F, Nx, f, z) dX5_value_67 (by rw [q1_0]; rfl) rfl (Nat.le_of_ble_eq_true rfl) (Nat.le_of_ble_eq_true rfl)
  by_cases q1_1 : w = 1
  · refine j_tabIn (tgt := 68) (v := 1) C dX5_value_1 q1_1 (by decide) (by decide) (by decide) (by decide) rfl (by decide) ?_
    refine j_aload_n C dX5_value_68 rfl ?_
    refine j_get C 0 0 0 rfl rfl rfl wU_X5 (by decide) wF_X5_12 rfl dX5_value_69 ?_
    refine j_getN C 7 0 1 rfl rfl rfl wU_X0 (by decide) wFN_X5_54 rfl dX5_value_72 ?_
    exact hR (X, F, Nx, f, z) dX5_value_75 (by rw [q1_1]; rfl) rfl (Nat.le_of_ble_eq_true rfl) (Nat.le_of_ble_eq_true rfl)
  by_cases q1_2 : w = 2
  · refine j_tabIn (tgt := 76) (v := 2) C dX5_value_1 q1_2 (by decide) (by decide) (by decide) (by decide) rfl (by decide) ?_
    refine j_aload_n C dX5_value_76 rfl ?_
    refine j_get C 0 0 0 rfl rfl rfl wU_X5 (by decide) wF_X5_12 rfl dX5_value_77 ?_
    refine j_perm (pm_8_7 _ _ _ _ _ _ _ _) ?_
    refine j_callVi C (As := []) (c_X0_countOpen _ _ _ _ _ (by first | assumption | omega)) 0 nf_X0_countOpen (jb := 0) rfl rfl wL_X5_180 wI_X0_countOpen wSe_X0_X0_countOpen wIn_X0 wC_X0_countOpen rfl rfl (by decide) dX5_value_80 (Nat.le_of_ble_eq_true rfl) ⟨Nat.le_of_ble_eq_true rfl, Nat.le_of_ble_eq_true rfl⟩ (fun x80 u80 h80 => ?_)
    refine j_perm (pr_8_7 _ _ _ _ _ _ _ _) ?_
    exact hR (X, F, Nx, f, z) dX5_value_83 (by rw [h80, q1_2]; rfl) rfl (Nat.le_of_ble_eq_true rfl) (Nat.le_of_ble_eq_true rfl)
  by_cases q1_3 : w = 3
  · refine j_tabIn (tgt := 84) (v := 3) C dX5_value_1 q1_3 (by decide) (by decide) (by decide) (by decide) rfl (by decide) ?_
    refine j_aload_n C dX5_value_84 rfl ?_
    refine j_get C 0 0 0 rfl rfl rfl wU_X5 (by decide) wF_X5_12 rfl dX5_value_85 ?_
    refine j_perm (pm_8_7 _ _ _ _ _ _ _ _) ?_
    refine j_callVi C (As := []) (c_X0_countDisputed _ _ _ _ _ (by first | assumption | omega)) 0 nf_X0_countDisputed (jb := 0) rfl rfl wL_X5_183 wI_X0_countDisputed wSe_X0_X0_countDisputed wIn_X0 wC_X0_countDisputed rfl rfl (by decide) dX5_value_88 (Nat.le_of_ble_eq_true rfl) ⟨Nat.le_of_ble_eq_true rfl, Nat.le_of_ble_eq_true rfl⟩ (fun x88 u88 h88 => ?_)
    refine j_perm (pr_8_7 _ _ _ _ _ _ _ _) ?_
    exact hR (X, F, Nx, f, z) dX5_value_91 (by rw [h88, q1_3]; rfl) rfl (Nat.le_of_ble_eq_true rfl) (Nat.le_of_ble_eq_true rfl)
  by_cases q1_4 : w = 4
  · refine j_tabIn (tgt := 92) (v := 4) C dX5_value_1 q1_4 (by decide) (by decide) (by decide) (by decide) rfl (by decide) ?_
    refine j_aload_n C dX5_value_92 rfl ?_
    refine j_get C 0 0 0 rfl rfl rfl wU_X5 (by decide) wF_X5_12 rfl dX5_value_93 ?_
    refine j_perm (pm_8_7 _ _ _ _ _ _ _ _) ?_
    refine j_callVi C (As := []) (c_X0_sumOfAmounts _ _ _ _ _ (by first | assumption | omega)) 0 nf_X0_sumOfAmounts (jb := 0) rfl rfl wL_X5_186 wI_X0_sumOfAmounts wSe_X0_X0_sumOfAmounts wIn_X0 wC_X0_sumOfAmounts rfl rfl (by decide) dX5_value_96 (Nat.le_of_ble_eq_true rfl) ⟨Nat.le_of_ble_eq_true rfl, Nat.le_of_ble_eq_true rfl⟩ (fun x96 u96 h96 => ?_)
    refine j_perm (pr_8_7 _ _ _ _ _ _ _ _) ?_
    exact hR (X, F, Nx, f, z) dX5_value_99 (by rw [h96, q1_4]; rfl) rfl (Nat.le_of_ble_eq_true rfl) (Nat.le_of_ble_eq_true rfl)
  by_cases q1_5 : w = 5
  · refine j_tabIn (tgt := 100) (v := 5) C dX5_value_1 q1_5 (by decide) (by decide) (by decide) (by decide) rfl (by decide) ?_
    refine j_aload_n C dX5_value_100 rfl ?_
    refine j_get C 0 0 0 rfl rfl rfl wU_X5 (by decide) wF_X5_12 rfl dX5_value_101 ?_
    refine j_perm (pm_8_7 _ _ _ _ _ _ _ _) ?_
    refine j_callVi C (As := []) (c_X0_costOfAll _ _ _ _ _ (by first | assumption | omega)) 0 nf_X0_costOfAll (jb := 0) rfl rfl wL_X5_189 wI_X0_costOfAll wSe_X0_X0_costOfAll wIn_X0 wC_X0_costOfAll rfl rfl (by decide) dX5_value_104 (Nat.le_of_ble_eq_true rfl) ⟨Nat.le_of_ble_eq_true rfl, Nat.le_of_ble_eq_true rfl⟩ (fun x104 u104 h104 => ?_)
    refine j_perm (pr_8_7 _ _ _ _ _ _ _ _) ?_
    exact hR (X, F, Nx, f, z) dX5_value_107 (by rw [h104, q1_5]; rfl) rfl (Nat.le_of_ble_eq_true rfl) (Nat.le_of_ble_eq_true rfl)
  by_cases q1_6 : w = 6
  · refine j_tabIn (tgt := 108) (v := 6) C dX5_value_1 q1_6 (by decide) (by decide) (by decide) (by decide) rfl (by decide) ?_
    refine j_aload_n C dX5_value_108 rfl ?_
    refine j_perm (pm_8_0_1_2_3_4_5_6_7 _ _ _ _ _ _ _ _) ?_
    refine j_callVi C (As := []) (c_X5_countRings _ _ _ _ _ _ _ _ _ _ (d) _ _ _ _ _ _ _ (by first | assumption | omega)) 0 nf_X5_countRings (jb := 0) rfl rfl wL_X5_112 wI_X5_countRings wSe_X5_X5_countRings wIn_X5 wC_X5_countRings rfl rfl (by decide) dX5_value_109 (Nat.le_of_ble_eq_true rfl) ⟨Nat.le_of_ble_eq_true rfl, Nat.le_of_ble_eq_true rfl⟩ (fun x109 u109 h109 => ?_)
    refine j_perm (pr_8_0_1_2_3_4_5_6_7 _ _ _ _ _ _ _ _) ?_
    exact hR (u109.1, u109.2.1, u109.2.2.1, u109.2.2.2, ((RS S).length : Int)) dX5_value_112 (by rw [h109.1, q1_6]; rfl) rfl (Nat.le_of_ble_eq_true rfl) (Nat.le_of_ble_eq_true rfl)
  by_cases q1_7 : w = 7
  · refine j_tabIn (tgt := 113) (v := 7) C dX5_value_1 q1_7 (by decide) (by decide) (by decide) (by decide) rfl (by decide) ?_
    refine j_aload_n C dX5_value_113 rfl ?_
    refine j_get C 0 0 0 rfl rfl rfl wU_X5 (by decide) wF_X5_12 rfl dX5_value_114 ?_
    refine j_getN C 7 0 2 rfl rfl rfl wU_X0 (by decide) wFN_X5_192 rfl dX5_value_117 ?_
    exact hR (X, F, Nx, f, z) dX5_value_120 (by rw [q1_7]; rfl) rfl (Nat.le_of_ble_eq_true rfl) (Nat.le_of_ble_eq_true rfl)
  by_cases q1_8 : w = 8
  · refine j_tabIn (tgt := 121) (v := 8) C dX5_value_1 q1_8 (by decide) (by decide) (by decide) (by decide) rfl (by decide) ?_
    refine j_aload_n C dX5_value_121 rfl ?_
    refine j_get C 0 0 0 rfl rfl rfl wU_X5 (by decide) wF_X5_12 rfl dX5_value_122 ?_
    refine j_getN C 7 0 3 rfl rfl rfl wU_X0 (by decide) wFN_X5_195 rfl dX5_value_125 ?_
    exact hR (X, F, Nx, f, z) dX5_value_128 (by rw [q1_8]; rfl) rfl (Nat.le_of_ble_eq_true rfl) (Nat.le_of_ble_eq_true rfl)
  by_cases q1_9 : w = 9
  · refine j_tabIn (tgt := 129) (v := 9) C dX5_value_1 q1_9 (by decide) (by decide) (by decide) (by decide) rfl (by decide) ?_
    refine j_aload_n C dX5_value_129 rfl ?_
    refine j_get C 0 0 0 rfl rfl rfl wU_X5 (by decide) wF_X5_12 rfl dX5_value_130 ?_
    refine j_getN C 7 0 4 rfl rfl rfl wU_X0 (by decide) wFN_X5_198 rfl dX5_value_133 ?_
    exact hR (X, F, Nx, f, z) dX5_value_136 (by rw [q1_9]; rfl) rfl (Nat.le_of_ble_eq_true rfl) (Nat.le_of_ble_eq_true rfl)
  by_cases q1_10 : w = 10
  · refine j_tabIn (tgt := 137) (v := 10) C dX5_value_1 q1_10 (by decide) (by decide) (by decide) (by decide) rfl (by decide) ?_
    refine j_aload_n C dX5_value_137 rfl ?_
    refine j_get C 0 0 0 rfl rfl rfl wU_X5 (by decide) wF_X5_12 rfl dX5_value_138 ?_
    refine j_perm (pm_8_7 _ _ _ _ _ _ _ _) ?_
    refine j_callVi C (As := []) (c_X0_sumOfGains _ _ _ _ _ (by first | assumption | omega)) 0 nf_X0_sumOfGains (jb := 0) rfl rfl wL_X5_201 wI_X0_sumOfGains wSe_X0_X0_sumOfGains wIn_X0 wC_X0_sumOfGains rfl rfl (by decide) dX5_value_141 (Nat.le_of_ble_eq_true rfl) ⟨Nat.le_of_ble_eq_true rfl, Nat.le_of_ble_eq_true rfl⟩ (fun x141 u141 h141 => ?_)
    refine j_perm (pr_8_7 _ _ _ _ _ _ _ _) ?_
    exact hR (X, F, Nx, f, z) dX5_value_144 (by rw [h141, q1_10]; rfl) rfl (Nat.le_of_ble_eq_true rfl) (Nat.le_of_ble_eq_true rfl)
  exfalso; omega
set_option maxHeartbeats 4000000 in
set_option maxRecDepth 100000 in
theorem c_X5_promiseOf (l : Launch) (D : va_G) (cA : Nat → ClassId) (q v : Nat) (b tb r m o d : Nat → Nat) (c : Int) (S : Int → Int) (i w : Int) (hI : Inv S) (hi : 0 ≤ i ∧ i < S 1) (hw : 0 ≤ w ∧ w ≤ 7) : MI (U := Unit) l yX5_promiseOf cX5_promiseOf 3 (some .int) (rmN 24 0 0) D cA [.ref (q), .int (iI i), .int (iI w)] [prO q v b tb r m o c, bk cA b S] (fun x _ => x = S (5 + 8 * i + w)) (fun _ => [prO q v b tb r m o c, bk cA b S]) := by
  refine m_startI pn_X5 rfl (List.forall_mem_cons.mpr ⟨rfl, List.forall_mem_cons.mpr ⟨rfl, List.forall_mem_cons.mpr ⟨rfl, fun _ h => absurd h List.not_mem_nil⟩⟩⟩) (Nat.le_of_ble_eq_true rfl) ?_
  intro K C e1 e2 e3 hin hR
  subst e1 e2 e3
  have hN := hI.2.1
  have f := hI.2.2 i hi.1 hi.2
  show J K 0 0 [prO q v b tb r m o c, bk (kC K) b S] [some (.ref (q)), some (.int (iI i)), some (.int (iI w))] 0 []
  refine j_aload_n C dX5_promiseOf_0 rfl ?_
  refine j_get C 0 0 0 rfl rfl rfl wU_X5 (by decide) wF_X5_12 rfl dX5_promiseOf_1 ?_
  refine j_iload_n C dX5_promiseOf_4 rfl ?_
  refine j_perm (pm_2_1 _ _) ?_
  refine j_callVi C (As := [.int (iI _)]) (c_X0_holds _ _ _ _ _ _ (by first | assumption | omega) (by first | assumption | omega)) 1 nf_X0_holds (jb := 0) rfl rfl wL_X5_90 wI_X0_holds wSe_X0_X0_holds wIn_X0 wC_X0_holds rfl rfl (by decide) dX5_promiseOf_5 (Nat.le_of_ble_eq_true rfl) ⟨Nat.le_of_ble_eq_true rfl, Nat.le_of_ble_eq_true rfl⟩ (fun x5 u5 h5 => ?_)
  refine j_perm (pr_2_1 _ _) ?_
  refine j_if_ne (tgt := 21) C dX5_promiseOf_8 (by decide) (by omega) (by omega) (fun c8 => ?_) (fun c8 => ?_)
  · refine j_iload_n C dX5_promiseOf_21 rfl ?_
    by_cases q22_0 : w = 0
    · refine j_tabIn (tgt := 68) (v := 0) C dX5_promiseOf_22 q22_0 (by decide) (by decide) (by decide) (by decide) rfl (by decide) ?_
      refine j_aload_n C dX5_promiseOf_68 rfl ?_
      refine j_get C 0 0 0 rfl rfl rfl wU_X5 (by decide) wF_X5_12 rfl dX5_promiseOf_69 ?_
      refine j_getN C 1 0 5 rfl rfl rfl wU_X0 (by decide) wFN_X5_145 rfl dX5_promiseOf_72 ?_
      refine j_iload_n C dX5_promiseOf_75 rfl ?_
      refine j_iald C 1 1 rfl rfl dX5_promiseOf_76 (by decide) (by omega) (by omega) ?_
      exact hR () dX5_promiseOf_77 (by have e : fr S i = S (5 + 8 * i + w) := (by unfold fr; congr 1; omega); exact e) rfl (Nat.le_of_ble_eq_true rfl) (Nat.le_of_ble_eq_true rfl)
    by_cases q22_1 : w = 1
    · refine j_tabIn (tgt := 78) (v := 1) C dX5_promiseOf_22 q22_1 (by decide) (by decide) (by decide) (by decide) rfl (by decide) ?_
      refine j_aload_n C dX5_promiseOf_78 rfl ?_
      refine j_get C 0 0 0 rfl rfl rfl wU_X5 (by decide) wF_X5_12 rfl dX5_promiseOf_79 ?_
      refine j_getN C 1 0 6 rfl rfl rfl wU_X0 (by decide) wFN_X5_148 rfl dX5_promiseOf_82 ?_
      refine j_iload_n C dX5_promiseOf_85 rfl ?_
      refine j_iald C 1 2 rfl rfl dX5_promiseOf_86 (by decide) (by omega) (by omega) ?_
      exact hR () dX5_promiseOf_87 (by have e : tO S i = S (5 + 8 * i + w) := (by unfold tO; congr 1; omega); exact e) rfl (Nat.le_of_ble_eq_true rfl) (Nat.le_of_ble_eq_true rfl)
    by_cases q22_2 : w = 2
    · refine j_tabIn (tgt := 88) (v := 2) C dX5_promiseOf_22 q22_2 (by decide) (by decide) (by decide) (by decide) rfl (by decide) ?_
      refine j_aload_n C dX5_promiseOf_88 rfl ?_
      refine j_get C 0 0 0 rfl rfl rfl wU_X5 (by decide) wF_X5_12 rfl dX5_promiseOf_89 ?_
      refine j_getN C 1 0 7 rfl rfl rfl wU_X0 (by decide) wFN_X5_97 rfl dX5_promiseOf_92 ?_
      refine j_iload_n C dX5_promiseOf_95 rfl ?_
      refine j_iald C 1 3 rfl rfl dX5_promiseOf_96 (by decide) (by omega) (by omega) ?_
      exact hR () dX5_promiseOf_97 (by have e : am S i = S (5 + 8 * i + w) := (by unfold am; congr 1; omega); exact e) rfl (Nat.le_of_ble_eq_true rfl) (Nat.le_of_ble_eq_true rfl)
    by_cases q22_3 : w = 3
    · refine j_tabIn (tgt := 98) (v := 3) C dX5_promiseOf_22 q22_3 (by decide) (by decide) (by decide) (by decide) rfl (by decide) ?_
      refine j_aload_n C dX5_promiseOf_98 rfl ?_
      refine j_get C 0 0 0 rfl rfl rfl wU_X5 (by decide) wF_X5_12 rfl dX5_promiseOf_99 ?_
      refine j_getN C 1 0 8 rfl rfl rfl wU_X0 (by decide) wFN_X5_151 rfl dX5_promiseOf_102 ?_
      refine j_iload_n C dX5_promiseOf_105 rfl ?_
      refine j_iald C 1 4 rfl rfl dX5_promiseOf_106 (by decide) (by omega) (by omega) ?_
      exact hR () dX5_promiseOf_107 (by have e : ra S i = S (5 + 8 * i + w) := (by unfold ra; congr 1; omega); exact e) rfl (Nat.le_of_ble_eq_true rfl) (Nat.le_of_ble_eq_true rfl)
    by_cases q22_4 : w = 4
    · refine j_tabIn (tgt := 108) (v := 4) C dX5_promiseOf_22 q22_4 (by decide) (by decide) (by decide) (by decide) rfl (by decide) ?_
      refine j_aload_n C dX5_promiseOf_108 rfl ?_
      refine j_get C 0 0 0 rfl rfl rfl wU_X5 (by decide) wF_X5_12 rfl dX5_promiseOf_109 ?_
      refine j_getN C 1 0 12 rfl rfl rfl wU_X0 (by decide) wFN_X5_116 rfl dX5_promiseOf_112 ?_
      refine j_iload_n C dX5_promiseOf_115 rfl ?_
      refine j_zald C 1 8 rfl rfl dX5_promiseOf_116 (by decide) (by omega) (by omega) ?_
      refine j_if_eq (tgt := 124) C dX5_promiseOf_117 (by decide) (by omega) (by omega) (fun c117 => ?_) (fun c117 => ?_)
      · refine j_iconst C dX5_promiseOf_124 ?_
        exact hR () dX5_promiseOf_125 (by have e : di S i = S (5 + 8 * i + w) := (by unfold di; congr 1; omega); omega) rfl (Nat.le_of_ble_eq_true rfl) (Nat.le_of_ble_eq_true rfl)
      · refine j_iconst C dX5_promiseOf_120 ?_
        refine j_goto (tgt := 125) C dX5_promiseOf_121 (by decide) ?_
        exact hR () dX5_promiseOf_125 (by have e : di S i = S (5 + 8 * i + w) := (by unfold di; congr 1; omega); omega) rfl (Nat.le_of_ble_eq_true rfl) (Nat.le_of_ble_eq_true rfl)
    by_cases q22_5 : w = 5
    · refine j_tabIn (tgt := 126) (v := 5) C dX5_promiseOf_22 q22_5 (by decide) (by decide) (by decide) (by decide) rfl (by decide) ?_
      refine j_aload_n C dX5_promiseOf_126 rfl ?_
      refine j_get C 0 0 0 rfl rfl rfl wU_X5 (by decide) wF_X5_12 rfl dX5_promiseOf_127 ?_
      refine j_getN C 1 0 9 rfl rfl rfl wU_X0 (by decide) wFN_X5_154 rfl dX5_promiseOf_130 ?_
      refine j_iload_n C dX5_promiseOf_133 rfl ?_
      refine j_iald C 1 5 rfl rfl dX5_promiseOf_134 (by decide) (by omega) (by omega) ?_
      exact hR () dX5_promiseOf_135 (by have e : fi S i = S (5 + 8 * i + w) := (by unfold fi; congr 1; omega); exact e) rfl (Nat.le_of_ble_eq_true rfl) (Nat.le_of_ble_eq_true rfl)
    by_cases q22_6 : w = 6
    · refine j_tabIn (tgt := 136) (v := 6) C dX5_promiseOf_22 q22_6 (by decide) (by decide) (by decide) (by decide) rfl (by decide) ?_
      refine j_aload_n C dX5_promiseOf_136 rfl ?_
      refine j_get C 0 0 0 rfl rfl rfl wU_X5 (by decide) wF_X5_12 rfl dX5_promiseOf_137 ?_
      refine j_getN C 1 0 10 rfl rfl rfl wU_X0 (by decide) wFN_X5_157 rfl dX5_promiseOf_140 ?_
      refine j_iload_n C dX5_promiseOf_143 rfl ?_
      refine j_iald C 1 6 rfl rfl dX5_promiseOf_144 (by decide) (by omega) (by omega) ?_
      exact hR () dX5_promiseOf_145 (by have e : pa S i = S (5 + 8 * i + w) := (by unfold pa; congr 1; omega); exact e) rfl (Nat.le_of_ble_eq_true rfl) (Nat.le_of_ble_eq_true rfl)
    by_cases q22_7 : w = 7
    · refine j_tabIn (tgt := 146) (v := 7) C dX5_promiseOf_22 q22_7 (by decide) (by decide) (by decide) (by decide) rfl (by decide) ?_
      refine j_aload_n C dX5_promiseOf_146 rfl ?_
      refine j_get C 0 0 0 rfl rfl rfl wU_X5 (by decide) wF_X5_12 rfl dX5_promiseOf_147 ?_
      refine j_getN C 1 0 11 rfl rfl rfl wU_X0 (by decide) wFN_X5_160 rfl dX5_promiseOf_150 ?_
      refine j_iload_n C dX5_promiseOf_153 rfl ?_
      refine j_iald C 1 7 rfl rfl dX5_promiseOf_154 (by decide) (by omega) (by omega) ?_
      exact hR () dX5_promiseOf_155 (by have e : re S i = S (5 + 8 * i + w) := (by unfold re; congr 1; omega); exact e) rfl (Nat.le_of_ble_eq_true rfl) (Nat.le_of_ble_eq_true rfl)
    exfalso; omega
  · exact absurd c8 (by rw [h5, if_pos (by omega)]; decide)
