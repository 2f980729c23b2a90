/-! the reference: rings asked for and discharged -/
theorem DBB_ag {S M D B : Int → Int} (hI : Inv S) (h : Ag S M) (g : DBB M D B) : DBB S D B := by
  unfold DBB at g ⊢
  rw [dQ_ag hI h, bQ_ag hI h] at g
  exact g
theorem getDin2 {l : List Int} {k : Nat} (hk : k < l.length) (z w : Int) : l.getD k z = l.getD k w := by
  rw [List.getD_eq_getElem?_getD, List.getD_eq_getElem?_getD, List.getElem?_eq_getElem hk]
  rfl
theorem getDout2 {l : List Int} {k : Nat} (hk : l.length ≤ k) (z : Int) : l.getD k z = z := by
  rw [List.getD_eq_getElem?_getD, List.getElem?_eq_none hk]
  rfl
theorem pm_5_0_1_2_3_4 (B0 B1 B2 B3 B4 : va_W) : [B0, B1, B2, B3, B4].Perm ([B0, B1, B2, B3, B4] ++ []) := List.Perm.trans (List.Perm.refl _) (List.Perm.trans (List.Perm.cons _ (List.Perm.refl _)) (List.Perm.trans (List.Perm.cons _ (List.Perm.cons _ (List.Perm.refl _))) (List.Perm.trans (List.Perm.cons _ (List.Perm.cons _ (List.Perm.cons _ (List.Perm.refl _)))) (List.Perm.cons _ (List.Perm.cons _ (List.Perm.cons _ (List.Perm.cons _ (List.Perm.refl _))))))))
theorem pr_5_0_1_2_3_4 (B0 B1 B2 B3 B4 : va_W) : ([B0, B1, B2, B3, B4] ++ []).Perm [B0, B1, B2, B3, B4] := (pm_5_0_1_2_3_4 B0 B1 B2 B3 B4).symm
theorem pm_5_0_1_3_4_2 (B0 B1 B2 B3 B4 : va_W) : [B0, B1, B2, B3, B4].Perm ([B0, B1, B3, B4, B2] ++ []) := List.Perm.trans (List.Perm.refl _) (List.Perm.trans (List.Perm.cons _ (List.Perm.refl _)) (List.Perm.trans (List.Perm.cons _ (List.Perm.cons _ (List.perm_middle (l₁ := [B2]) (a := B3) (l₂ := [B4])))) (List.Perm.trans (List.Perm.cons _ (List.Perm.cons _ (List.Perm.cons _ (List.perm_middle (l₁ := [B2]) (a := B4) (l₂ := []))))) (List.Perm.cons _ (List.Perm.cons _ (List.Perm.cons _ (List.Perm.cons _ (List.Perm.refl _))))))))
theorem pr_5_0_1_3_4_2 (B0 B1 B2 B3 B4 : va_W) : ([B0, B1, B3, B4, B2] ++ []).Perm [B0, B1, B2, B3, B4] := (pm_5_0_1_3_4_2 B0 B1 B2 B3 B4).symm
theorem pm_6_0 (B0 B1 B2 B3 B4 B5 : va_W) : [B0, B1, B2, B3, B4, B5].Perm ([B0] ++ [B1, B2, B3, B4, B5]) := List.Perm.refl _
theorem pr_6_0 (B0 B1 B2 B3 B4 B5 : va_W) : ([B0] ++ [B1, B2, B3, B4, B5]).Perm [B0, B1, B2, B3, B4, B5] := (pm_6_0 B0 B1 B2 B3 B4 B5).symm
theorem pm_6_0_1 (B0 B1 B2 B3 B4 B5 : va_W) : [B0, B1, B2, B3, B4, B5].Perm ([B0, B1] ++ [B2, B3, B4, B5]) := List.Perm.trans (List.Perm.refl _) (List.Perm.cons _ (List.Perm.refl _))
theorem pr_6_0_1 (B0 B1 B2 B3 B4 B5 : va_W) : ([B0, B1] ++ [B2, B3, B4, B5]).Perm [B0, B1, B2, B3, B4, B5] := (pm_6_0_1 B0 B1 B2 B3 B4 B5).symm
theorem pm_6_0_2_4 (B0 B1 B2 B3 B4 B5 : va_W) : [B0, B1, B2, B3, B4, B5].Perm ([B0, B2, B4] ++ [B1, B3, B5]) := List.Perm.trans (List.Perm.refl _) (List.Perm.trans (List.Perm.cons _ (List.perm_middle (l₁ := [B1]) (a := B2) (l₂ := [B3, B4, B5]))) (List.Perm.cons _ (List.Perm.cons _ (List.perm_middle (l₁ := [B1, B3]) (a := B4) (l₂ := [B5])))))
theorem pr_6_0_2_4 (B0 B1 B2 B3 B4 B5 : va_W) : ([B0, B2, B4] ++ [B1, B3, B5]).Perm [B0, B1, B2, B3, B4, B5] := (pm_6_0_2_4 B0 B1 B2 B3 B4 B5).symm
theorem pm_6_0_2_5 (B0 B1 B2 B3 B4 B5 : va_W) : [B0, B1, B2, B3, B4, B5].Perm ([B0, B2, B5] ++ [B1, B3, B4]) := List.Perm.trans (List.Perm.refl _) (List.Perm.trans (List.Perm.cons _ (List.perm_middle (l₁ := [B1]) (a := B2) (l₂ := [B3, B4, B5]))) (List.Perm.cons _ (List.Perm.cons _ (List.perm_middle (l₁ := [B1, B3, B4]) (a := B5) (l₂ := [])))))
theorem pr_6_0_2_5 (B0 B1 B2 B3 B4 B5 : va_W) : ([B0, B2, B5] ++ [B1, B3, B4]).Perm [B0, B1, B2, B3, B4, B5] := (pm_6_0_2_5 B0 B1 B2 B3 B4 B5).symm
theorem pm_7_0_1_3_6 (B0 B1 B2 B3 B4 B5 B6 : va_W) : [B0, B1, B2, B3, B4, B5, B6].Perm ([B0, B1, B3, B6] ++ [B2, B4, B5]) := List.Perm.trans (List.Perm.refl _) (List.Perm.trans (List.Perm.cons _ (List.Perm.refl _)) (List.Perm.trans (List.Perm.cons _ (List.Perm.cons _ (List.perm_middle (l₁ := [B2]) (a := B3) (l₂ := [B4, B5, B6])))) (List.Perm.cons _ (List.Perm.cons _ (List.Perm.cons _ (List.perm_middle (l₁ := [B2, B4, B5]) (a := B6) (l₂ := [])))))))
theorem pr_7_0_1_3_6 (B0 B1 B2 B3 B4 B5 B6 : va_W) : ([B0, B1, B3, B6] ++ [B2, B4, B5]).Perm [B0, B1, B2, B3, B4, B5, B6] := (pm_7_0_1_3_6 B0 B1 B2 B3 B4 B5 B6).symm
theorem pm_7_0_3_5 (B0 B1 B2 B3 B4 B5 B6 : va_W) : [B0, B1, B2, B3, B4, B5, B6].Perm ([B0, B3, B5] ++ [B1, B2, B4, B6]) := List.Perm.trans (List.Perm.refl _) (List.Perm.trans (List.Perm.cons _ (List.perm_middle (l₁ := [B1, B2]) (a := B3) (l₂ := [B4, B5, B6]))) (List.Perm.cons _ (List.Perm.cons _ (List.perm_middle (l₁ := [B1, B2, B4]) (a := B5) (l₂ := [B6])))))
theorem pr_7_0_3_5 (B0 B1 B2 B3 B4 B5 B6 : va_W) : ([B0, B3, B5] ++ [B1, B2, B4, B6]).Perm [B0, B1, B2, B3, B4, B5, B6] := (pm_7_0_3_5 B0 B1 B2 B3 B4 B5 B6).symm
theorem pm_8_0 (B0 B1 B2 B3 B4 B5 B6 B7 : va_W) : [B0, B1, B2, B3, B4, B5, B6, B7].Perm ([B0] ++ [B1, B2, B3, B4, B5, B6, B7]) := List.Perm.refl _
theorem pr_8_0 (B0 B1 B2 B3 B4 B5 B6 B7 : va_W) : ([B0] ++ [B1, B2, B3, B4, B5, B6, B7]).Perm [B0, B1, B2, B3, B4, B5, B6, B7] := (pm_8_0 B0 B1 B2 B3 B4 B5 B6 B7).symm
theorem pm_8_0_1_2 (B0 B1 B2 B3 B4 B5 B6 B7 : va_W) : [B0, B1, B2, B3, B4, B5, B6, B7].Perm ([B0, B1, B2] ++ [B3, B4, B5, B6, B7]) := List.Perm.trans (List.Perm.refl _) (List.Perm.trans (List.Perm.cons _ (List.Perm.refl _)) (List.Perm.cons _ (List.Perm.cons _ (List.Perm.refl _))))
theorem pr_8_0_1_2 (B0 B1 B2 B3 B4 B5 B6 B7 : va_W) : ([B0, B1, B2] ++ [B3, B4, B5, B6, B7]).Perm [B0, B1, B2, B3, B4, B5, B6, B7] := (pm_8_0_1_2 B0 B1 B2 B3 B4 B5 B6 B7).symm
theorem pm_8_0_1_3_4_5_6_7 (B0 B1 B2 B3 B4 B5 B6 B7 : va_W) : [B0, B1, B2, B3, B4, B5, B6, B7].Perm ([B0, B1, B3, B4, B5, B6, B7] ++ [B2]) := List.Perm.trans (List.Perm.refl _) (List.Perm.trans (List.Perm.cons _ (List.Perm.refl _)) (List.Perm.trans (List.Perm.cons _ (List.Perm.cons _ (List.perm_middle (l₁ := [B2]) (a := B3) (l₂ := [B4, B5, B6, B7])))) (List.Perm.trans (List.Perm.cons _ (List.Perm.cons _ (List.Perm.cons _ (List.perm_middle (l₁ := [B2]) (a := B4) (l₂ := [B5, B6, B7]))))) (List.Perm.trans (List.Perm.cons _ (List.Perm.cons _ (List.Perm.cons _ (List.Perm.cons _ (List.perm_middle (l₁ := [B2]) (a := B5) (l₂ := [B6, B7])))))) (List.Perm.trans (List.Perm.cons _ (List.Perm.cons _ (List.Perm.cons _ (List.Perm.cons _ (List.Perm.cons _ (List.perm_middle (l₁ := [B2]) (a := B6) (l₂ := [B7]))))))) (List.Perm.cons _ (List.Perm.cons _ (List.Perm.cons _ (List.Perm.cons _ (List.Perm.cons _ (List.Perm.cons _ (List.perm_middle (l₁ := [B2]) (a := B7) (l₂ := [])))))))))))))
theorem pr_8_0_1_3_4_5_6_7 (B0 B1 B2 B3 B4 B5 B6 B7 : va_W) : ([B0, B1, B3, B4, B5, B6, B7] ++ [B2]).Perm [B0, B1, B2, B3, B4, B5, B6, B7] := (pm_8_0_1_3_4_5_6_7 B0 B1 B2 B3 B4 B5 B6 B7).symm
theorem pm_8_0_1_3_5_6_7 (B0 B1 B2 B3 B4 B5 B6 B7 : va_W) : [B0, B1, B2, B3, B4, B5, B6, B7].Perm ([B0, B1, B3, B5, B6, B7] ++ [B2, B4]) := List.Perm.trans (List.Perm.refl _) (List.Perm.trans (List.Perm.cons _ (List.Perm.refl _)) (List.Perm.trans (List.Perm.cons _ (List.Perm.cons _ (List.perm_middle (l₁ := [B2]) (a := B3) (l₂ := [B4, B5, B6, B7])))) (List.Perm.trans (List.Perm.cons _ (List.Perm.cons _ (List.Perm.cons _ (List.perm_middle (l₁ := [B2, B4]) (a := B5) (l₂ := [B6, B7]))))) (List.Perm.trans (List.Perm.cons _ (List.Perm.cons _ (List.Perm.cons _ (List.Perm.cons _ (List.perm_middle (l₁ := [B2, B4]) (a := B6) (l₂ := [B7])))))) (List.Perm.cons _ (List.Perm.cons _ (List.Perm.cons _ (List.Perm.cons _ (List.Perm.cons _ (List.perm_middle (l₁ := [B2, B4]) (a := B7) (l₂ := [])))))))))))
theorem pr_8_0_1_3_5_6_7 (B0 B1 B2 B3 B4 B5 B6 B7 : va_W) : ([B0, B1, B3, B5, B6, B7] ++ [B2, B4]).Perm [B0, B1, B2, B3, B4, B5, B6, B7] := (pm_8_0_1_3_5_6_7 B0 B1 B2 B3 B4 B5 B6 B7).symm
set_option maxHeartbeats 800000 in
set_option maxRecDepth 100000 in
theorem c_X6_discharge (l : Launch) (D : va_G) (cA : Nat → ClassId) (a : Nat → Nat) (G M V R N1 D1 B1 S : Int → Int) (j w : Int) (hI : Inv S) (hA : Ag S M) (hc : 0 ≤ G 0 ∧ G 0 ≤ 4) (hj : -2147483648 ≤ j ∧ j < 2147483648) (hw : -2147483648 ≤ w ∧ w < 2147483648) : MI (U := (Int → Int) × (Int → Int) × (Int → Int) × (Int → Int) × (Int → Int) × (Int → Int) × (Int → Int)) l yX6_discharge cX6_discharge 4 (some .int) (rmN 6 0 0) D cA [.ref (a 0), .int (iI j), .int (iI w)] [mO a G, [(a 1, aJ (cA 0) 325 M)], [(a 3, aJ (cA 0) 1300 V)], [(a 7, aJ (cA 0) 8 R)], [(a 8, aJ (cA 0) 9 N1)], [(a 5, aJ (cA 0) 49 D1)], [(a 6, aJ (cA 0) 490 B1)]] (fun z u => (((0 ≤ j ∧ j < ((RS S).length : Int)) ∧ 1 ≤ w ∧ w ≤ room S ((RS S).getD j.toNat [])) ∧ z = savP S ((RS S).getD j.toNat []) w ∧ Ag (disR S ((RS S).getD j.toNat []) w) u.2.1 ∧ RV2 G M V u.1 u.2.2.1) ∨ ((u.2.1 = M ∧ u.2.2.1 = V) ∧ ((¬ (0 ≤ j ∧ j < ((RS S).length : Int)) ∧ RU G u.1 1) ∨ ((0 ≤ j ∧ j < ((RS S).length : Int)) ∧ w < 1 ∧ RU G u.1 2) ∨ ((0 ≤ j ∧ j < ((RS S).length : Int)) ∧ 1 ≤ w ∧ room S ((RS S).getD j.toNat []) < w ∧ RU G u.1 3)))) (fun u => [mO a u.1, [(a 1, aJ (cA 0) 325 u.2.1)], [(a 3, aJ (cA 0) 1300 u.2.2.1)], [(a 7, aJ (cA 0) 8 u.2.2.2.1)], [(a 8, aJ (cA 0) 9 u.2.2.2.2.1)], [(a 5, aJ (cA 0) 49 u.2.2.2.2.2.1)], [(a 6, aJ (cA 0) 490 u.2.2.2.2.2.2)]]) := by
  refine m_startI pn_X6 rfl (List.forall_mem_cons.mpr ⟨rfl, List.forall_mem_cons.mpr ⟨rfl, List.forall_mem_cons.mpr ⟨rfl, fun _ h => absurd h List.not_mem_nil⟩⟩⟩) (Nat.le_of_ble_eq_true rfl) ?_
  intro K C e1 e2 e3 hin hR
  subst e1 e2 e3
  have hN := hI.2.1
  have hQ := hI.1
  have hM := Ag_h hA hN.1
  have hM0 := hM.1
  have hM1 := hM.2.1
  show J K 0 0 [mO a G, [(a 1, aJ ((kC K) 0) 325 M)], [(a 3, aJ ((kC K) 0) 1300 V)], [(a 7, aJ ((kC K) 0) 8 R)], [(a 8, aJ ((kC K) 0) 9 N1)], [(a 5, aJ ((kC K) 0) 49 D1)], [(a 6, aJ ((kC K) 0) 490 B1)]] [some (.ref (a 0)), some (.int (iI j)), some (.int (iI w)), none] 0 []
  refine j_aload_n C dX6_discharge_0 rfl ?_
  refine j_iload_n C dX6_discharge_1 rfl ?_
  refine j_perm (pm_7_0_1_3_4_5_6 _ _ _ _ _ _ _) ?_
  refine j_callVi C (As := [.int (iI _)]) (c_X6_findsRing _ _ _ _ _ _ _ _ _ _ _ (by exact Ag_Inv hI hA) (by first | assumption | omega)) 1 nf_X6_findsRing (jb := 0) rfl rfl wL_X6_169 wI_X6_findsRing wSe_X6_X6_findsRing wIn_X6 wC_X6_findsRing rfl rfl (by decide) dX6_discharge_2 (Nat.le_of_ble_eq_true rfl) ⟨Nat.le_of_ble_eq_true rfl, Nat.le_of_ble_eq_true rfl⟩ (fun x2 u2 h2 => ?_)
  refine j_perm (pr_7_0_1_3_4_5_6 _ _ _ _ _ _ _) ?_
  have hk2 := h2.1
  have hf2 := h2.2
  rw [RS_ag hI hA] at hf2
  have qf2 : (x2 = 1 ∧ (0 ≤ j ∧ j < ((RS S).length : Int))) ∨ (x2 = 0 ∧ ¬ (0 ≤ j ∧ j < ((RS S).length : Int))) := by rcases hf2 with q | q; exact Or.inl ⟨q.1, q.2.1⟩; exact Or.inr q
  refine j_istn_3 C dX6_discharge_5 rfl ?_
  have L16 : ∀ (x1 : Int) (hx1 : x1 = if ¬ (0 ≤ j ∧ j < ((RS S).length : Int)) then 1 else 0), J K 0 0 [mO a u2.1, [(a 1, aJ ((kC K) 0) 325 M)], [(a 3, aJ ((kC K) 0) 1300 V)], [(a 7, aJ ((kC K) 0) 8 u2.2.1)], [(a 8, aJ ((kC K) 0) 9 u2.2.2.1)], [(a 5, aJ ((kC K) 0) 49 u2.2.2.2.1)], [(a 6, aJ ((kC K) 0) 490 u2.2.2.2.2)]] [some (.ref (a 0)), some (.int (iI j)), some (.int (iI w)), some (.int (iI x2))] 16 [.int (iI x1), .ref (a 0)] := by
    intro x1 hx1
    have hbx1 : x1 = 0 ∨ x1 = 1 := by rw [hx1]; split <;> omega
    have qx1 := ite01 hx1
    have L26 : ∀ (y1 : Int) (hy1 : y1 = if w < 1 then 1 else 0), J K 0 0 [mO a u2.1, [(a 1, aJ ((kC K) 0) 325 M)], [(a 3, aJ ((kC K) 0) 1300 V)], [(a 7, aJ ((kC K) 0) 8 u2.2.1)], [(a 8, aJ ((kC K) 0) 9 u2.2.2.1)], [(a 5, aJ ((kC K) 0) 49 u2.2.2.2.1)], [(a 6, aJ ((kC K) 0) 490 u2.2.2.2.2)]] [some (.ref (a 0)), some (.int (iI j)), some (.int (iI w)), some (.int (iI x2))] 26 [.int (iI y1), .int (iI x1), .ref (a 0)] := by
      intro y1 hy1
      have hby1 : y1 = 0 ∨ y1 = 1 := by rw [hy1]; split <;> omega
      have qy1 := ite01 hy1
      have L43 : ∀ (z1 : Int) (hz1 : z1 = if (0 ≤ j ∧ j < ((RS S).length : Int)) ∧ room S ((RS S).getD j.toNat []) < w then 1 else 0), J K 0 0 [mO a u2.1, [(a 1, aJ ((kC K) 0) 325 M)], [(a 3, aJ ((kC K) 0) 1300 V)], [(a 7, aJ ((kC K) 0) 8 u2.2.1)], [(a 8, aJ ((kC K) 0) 9 u2.2.2.1)], [(a 5, aJ ((kC K) 0) 49 u2.2.2.2.1)], [(a 6, aJ ((kC K) 0) 490 u2.2.2.2.2)]] [some (.ref (a 0)), some (.int (iI j)), some (.int (iI w)), some (.int (iI x2))] 43 [.int (iI z1), .int (iI y1), .int (iI x1), .ref (a 0)] := by
        intro z1 hz1
        have hbz1 : z1 = 0 ∨ z1 = 1 := by rw [hz1]; split <;> omega
        have qz1 := ite01 hz1
        refine j_perm (pm_7_0 _ _ _ _ _ _ _) ?_
        refine j_callVi C (As := [.int (iI _), .int (iI _), .int (iI _)]) (c_X6_goes _ _ _ _ _ _ _ _ (by first | assumption | omega) (by first | assumption | omega) (by first | assumption | omega)) 3 nf_X6_goes (jb := 0) rfl rfl wL_X6_146 wI_X6_goes wSe_X6_X6_goes wIn_X6 wC_X6_goes rfl rfl (by decide) dX6_discharge_43 (Nat.le_of_ble_eq_true rfl) ⟨Nat.le_of_ble_eq_true rfl, Nat.le_of_ble_eq_true rfl⟩ (fun x43 u43 h43 => ?_)
        refine j_perm (pr_7_0 _ _ _ _ _ _ _) ?_
        have q43 := goes3 h43
        refine j_if_ne (tgt := 51) C dX6_discharge_46 (by decide) (by omega) (by omega) (fun c46 => ?_) (fun c46 => ?_)
        · have hij : (0 ≤ j ∧ j < ((RS S).length : Int)) := by omega
          have hfr : (u2.1 4 = (((RS S).getD j.toNat []).length : Int) ∧ RWS u2.2.1 ((RS S).getD j.toNat [])) ∧ DBB M u2.2.2.2.1 u2.2.2.2.2 := by
            rcases hf2 with q | q
            · exact q.2.2
            · exact absurd hij q.2
          have hDB := DBB_ag hI hA hfr.2
          have hPR := RS_get (S := S) (i := j) hij.1 hij.2
          have hrb := room_bd hI hPR
          have hwr : 1 ≤ w ∧ w ≤ room S ((RS S).getD j.toNat []) := by omega
          refine j_aload_n C dX6_discharge_51 rfl ?_
          refine j_perm (pm_7_0_1_2 _ _ _ _ _ _ _) ?_
          refine j_callVv C (As := []) (c_X6_saves _ _ _ _ _ _ _ (by rw [show st u2.1 2 u43 0 = G 0 from (st_n (by omega)).trans (hk2 0 (by omega))]; exact hc)) 0 nf_X6_saves (jb := 0) rfl rfl wL_X6_150 wI_X6_saves wSe_X6_X6_saves wIn_X6 wC_X6_saves rfl rfl (by decide) dX6_discharge_52 (Nat.le_of_ble_eq_true rfl) ⟨Nat.le_of_ble_eq_true rfl, Nat.le_of_ble_eq_true rfl⟩ (fun u52 h52 => ?_)
          refine j_perm (pr_7_0_1_2 _ _ _ _ _ _ _) ?_
          have hRV := RV2_of (RU_KG0 hk2 (RU_of (G := u2.1) (show u43 = 0 by omega))) h52
          refine j_aload_n C dX6_discharge_55 rfl ?_
          refine j_aload_n C dX6_discharge_56 rfl ?_
          refine j_get C 0 0 0 rfl rfl rfl wU_X6 (by decide) wF_X6_7 rfl dX6_discharge_57 ?_
          refine j_iload_n C dX6_discharge_60 rfl ?_
          refine j_perm (pm_7_0_1_3_6 _ _ _ _ _ _ _) ?_
          refine j_callVi C (As := [.ref _, .int (iI _)]) (c_X6_discharges _ _ _ _ _ _ _ _ _ (((RS S).getD j.toNat [])) _ (by rw [st_n (by omega), st_n (by omega)]; exact hfr.1.1) (by exact hfr.1.2) (by exact ⟨hPR.1.2.1, hPR.1.2.2.1⟩) (by exact hPR.1) (by exact Ag_Inv hI hA) (by exact hfr.2.2) (by omega) (by rw [dQ_ag hI hA]; exact fun q hq => by have := rmC_le (d := dQ S) q hq; have e9 : room S ((RS S).getD j.toNat []) = rmC (dQ S) (prs ((RS S).getD j.toNat [])) := rfl; omega)) 2 nf_X6_discharges (jb := 0) rfl rfl wL_X6_134 wI_X6_discharges wSe_X6_X6_discharges wIn_X6 wC_X6_discharges rfl rfl (by decide) dX6_discharge_61 (Nat.le_of_ble_eq_true rfl) ⟨Nat.le_of_ble_eq_true rfl, Nat.le_of_ble_eq_true rfl⟩ (fun x61 u61 h61 => ?_)
          refine j_perm (pr_7_0_1_3_6 _ _ _ _ _ _ _) ?_
          rw [savP_ag hI hA] at h61
          refine hR (st (st u2.1 2 u43) 0 (if (st u2.1 2 u43) 0 < 4 then (st u2.1 2 u43) 0 + 1 else 4), disR M ((RS S).getD j.toNat []) w, u52, u2.2.1, u2.2.2.1, u2.2.2.2.1, u2.2.2.2.2) dX6_discharge_64 ?_ rfl (Nat.le_of_ble_eq_true rfl) (Nat.le_of_ble_eq_true rfl)
          exact Or.inl ⟨⟨hij, hwr⟩, h61, disR_Ag hI hA (by omega), hRV⟩
        · refine j_iconst C dX6_discharge_49 ?_
          refine hR (st u2.1 2 u43, M, V, u2.2.1, u2.2.2.1, u2.2.2.2.1, u2.2.2.2.2) dX6_discharge_50 ?_ rfl (Nat.le_of_ble_eq_true rfl) (Nat.le_of_ble_eq_true rfl)
          refine Or.inr ⟨⟨rfl, rfl⟩, ?_⟩
          rcases q43 with q | q | q | q
          · exact Or.inl ⟨by omega, RU_KG0 hk2 (RU_of q.2.1)⟩
          · exact Or.inr (Or.inl ⟨by omega, by omega, RU_KG0 hk2 (RU_of q.2.2.1)⟩)
          · exact Or.inr (Or.inr ⟨by omega, by omega, by omega, RU_KG0 hk2 (RU_of q.2.2.2.1)⟩)
          · omega
      refine j_iload_n C dX6_discharge_26 rfl ?_
      refine j_if_eq (tgt := 42) C dX6_discharge_27 (by decide) (by omega) (by omega) (fun c27 => ?_) (fun c27 => ?_)
      · refine j_iconst C dX6_discharge_42 ?_
        exact L43 _ (by first | (rw [if_pos (by omega)]; done) | (rw [if_neg (by omega)]; done))
      · have hij : (0 ≤ j ∧ j < ((RS S).length : Int)) := by omega
        have hfr : (u2.1 4 = (((RS S).getD j.toNat []).length : Int) ∧ RWS u2.2.1 ((RS S).getD j.toNat [])) ∧ DBB M u2.2.2.2.1 u2.2.2.2.2 := by
          rcases hf2 with q | q
          · exact q.2.2
          · exact absurd hij q.2
        have hDB := DBB_ag hI hA hfr.2
        have hPR := RS_get (S := S) (i := j) hij.1 hij.2
        have hrb := room_bd hI hPR
        refine j_iload_n C dX6_discharge_30 rfl ?_
        refine j_aload_n C dX6_discharge_31 rfl ?_
        refine j_perm (pm_7_0_3_5 _ _ _ _ _ _ _) ?_
        refine j_callVi C (As := []) (c_X6_roomOf _ _ _ _ _ _ _ (((RS S).getD j.toNat [])) (by exact hfr.1.1) (by exact hfr.1.2) (by exact ⟨hPR.1.2.1, hPR.1.2.2.1⟩) (by exact hPR.1.1) (by exact fun q p0 p1 => by rw [hDB.1 q p0 p1]; exact dQ_bd hI q)) 0 nf_X6_roomOf (jb := 0) rfl rfl wL_X6_127 wI_X6_roomOf wSe_X6_X6_roomOf wIn_X6 wC_X6_roomOf rfl rfl (by decide) dX6_discharge_32 (Nat.le_of_ble_eq_true rfl) ⟨Nat.le_of_ble_eq_true rfl, Nat.le_of_ble_eq_true rfl⟩ (fun x32 u32 h32 => ?_)
        refine j_perm (pr_7_0_3_5 _ _ _ _ _ _ _) ?_
        have hx32 : x32 = room S ((RS S).getD j.toNat []) := h32.trans (room_D hDB.1 hPR.1)
        refine j_icmp_le (tgt := 42) C dX6_discharge_35 (by decide) (by omega) (by omega) (by omega) (by omega) (fun c35 => ?_) (fun c35 => ?_)
        · refine j_iconst C dX6_discharge_42 ?_
          exact L43 _ (by first | (rw [if_pos (by omega)]; done) | (rw [if_neg (by omega)]; done))
        · refine j_iconst C dX6_discharge_38 ?_
          refine j_goto (tgt := 43) C dX6_discharge_39 (by decide) ?_
          exact L43 _ (by first | (rw [if_pos (by omega)]; done) | (rw [if_neg (by omega)]; done))
    refine j_iload_n C dX6_discharge_16 rfl ?_
    refine j_iconst C dX6_discharge_17 ?_
    refine j_icmp_ge (tgt := 25) C dX6_discharge_18 (by decide) (by omega) (by omega) (by omega) (by omega) (fun c18 => ?_) (fun c18 => ?_)
    · refine j_iconst C dX6_discharge_25 ?_
      exact L26 _ (by first | (rw [if_pos (by omega)]; done) | (rw [if_neg (by omega)]; done))
    · refine j_iconst C dX6_discharge_21 ?_
      refine j_goto (tgt := 26) C dX6_discharge_22 (by decide) ?_
      exact L26 _ (by first | (rw [if_pos (by omega)]; done) | (rw [if_neg (by omega)]; done))
  refine j_aload_n C dX6_discharge_6 rfl ?_
  refine j_iload_n C dX6_discharge_7 rfl ?_
  refine j_if_ne (tgt := 15) C dX6_discharge_8 (by decide) (by omega) (by omega) (fun c8 => ?_) (fun c8 => ?_)
  · refine j_iconst C dX6_discharge_15 ?_
    exact L16 _ (by first | (rw [if_pos (by omega)]; done) | (rw [if_neg (by omega)]; done))
  · refine j_iconst C dX6_discharge_11 ?_
    refine j_goto (tgt := 16) C dX6_discharge_12 (by decide) ?_
    exact L16 _ (by first | (rw [if_pos (by omega)]; done) | (rw [if_neg (by omega)]; done))
set_option maxHeartbeats 800000 in
set_option maxRecDepth 100000 in
theorem c_X6_dischargeBest (l : Launch) (D : va_G) (cA : Nat → ClassId) (a : Nat → Nat) (G M V R N1 D1 B1 BR S : Int → Int) (hI : Inv S) (hA : Ag S M) (hc : 0 ≤ G 0 ∧ G 0 ≤ 4) : MI (U := (Int → Int) × (Int → Int) × (Int → Int) × (Int → Int) × (Int → Int) × (Int → Int) × (Int → Int) × (Int → Int)) l yX6_dischargeBest cX6_dischargeBest 1 (some .int) (rmN 7 0 0) D cA [.ref (a 0)] [mO a G, [(a 1, aJ (cA 0) 325 M)], [(a 3, aJ (cA 0) 1300 V)], [(a 7, aJ (cA 0) 8 R)], [(a 8, aJ (cA 0) 9 N1)], [(a 5, aJ (cA 0) 49 D1)], [(a 6, aJ (cA 0) 490 B1)], [(a 9, aJ (cA 0) 8 BR)]] (fun z u => (0 < (RS S).length ∧ z = bestV S ∧ Ag (if best S = -1 then S else disB S) u.2.1 ∧ RV2 G M V u.1 u.2.2.1) ∨ ((u.2.1 = M ∧ u.2.2.1 = V) ∧ (RS S).length = 0 ∧ RU G u.1 1)) (fun u => [mO a u.1, [(a 1, aJ (cA 0) 325 u.2.1)], [(a 3, aJ (cA 0) 1300 u.2.2.1)], [(a 7, aJ (cA 0) 8 u.2.2.2.1)], [(a 8, aJ (cA 0) 9 u.2.2.2.2.1)], [(a 5, aJ (cA 0) 49 u.2.2.2.2.2.1)], [(a 6, aJ (cA 0) 490 u.2.2.2.2.2.2.1)], [(a 9, aJ (cA 0) 8 u.2.2.2.2.2.2.2)]]) := by
  refine m_startI pn_X6 rfl (List.forall_mem_cons.mpr ⟨rfl, fun _ h => absurd h List.not_mem_nil⟩) (Nat.le_of_ble_eq_true rfl) ?_
  intro K C e1 e2 e3 hin hR
  subst e1 e2 e3
  have hN := hI.2.1
  have hQ := hI.1
  have hM := Ag_h hA hN.1
  have hM0 := hM.1
  have hM1 := hM.2.1
  have hbn := best_none hI
  show J K 0 0 [mO a G, [(a 1, aJ ((kC K) 0) 325 M)], [(a 3, aJ ((kC K) 0) 1300 V)], [(a 7, aJ ((kC K) 0) 8 R)], [(a 8, aJ ((kC K) 0) 9 N1)], [(a 5, aJ ((kC K) 0) 49 D1)], [(a 6, aJ ((kC K) 0) 490 B1)], [(a 9, aJ ((kC K) 0) 8 BR)]] [some (.ref (a 0))] 0 []
  refine j_aload_n C dX6_dischargeBest_0 rfl ?_
  refine j_aload_n C dX6_dischargeBest_1 rfl ?_
  refine j_aload_n C dX6_dischargeBest_2 rfl ?_
  refine j_get C 0 0 0 rfl rfl rfl wU_X6 (by decide) wF_X6_7 rfl dX6_dischargeBest_3 ?_
  refine j_perm (pm_8_0_1_3_4_5_6_7 _ _ _ _ _ _ _ _) ?_
  refine j_callVi C (As := [.ref _]) (c_X6_findsBest _ _ _ _ _ _ _ _ _ _ _ _ (by exact Ag_Inv hI hA)) 1 nf_X6_findsBest (jb := 0) rfl rfl wL_X6_138 wI_X6_findsBest wSe_X6_X6_findsBest wIn_X6 wC_X6_findsBest rfl rfl (by decide) dX6_dischargeBest_6 (Nat.le_of_ble_eq_true rfl) ⟨Nat.le_of_ble_eq_true rfl, Nat.le_of_ble_eq_true rfl⟩ (fun x6 u6 h6 => ?_)
  refine j_perm (pr_8_0_1_3_4_5_6_7 _ _ _ _ _ _ _ _) ?_
  obtain ⟨hk6, hb6, hd6, hx6, hn6⟩ := h6
  rw [(best_ag hI hA).1, (best_ag hI hA).2] at hb6
  rw [(best_ag hI hA).1] at hx6
  have L17 : ∀ (x1 : Int) (hx1 : x1 = if best S = -1 then 1 else 0), J K 0 0 [mO a u6.1, [(a 1, aJ ((kC K) 0) 325 M)], [(a 3, aJ ((kC K) 0) 1300 V)], [(a 7, aJ ((kC K) 0) 8 u6.2.1)], [(a 8, aJ ((kC K) 0) 9 u6.2.2.1)], [(a 5, aJ ((kC K) 0) 49 u6.2.2.2.1)], [(a 6, aJ ((kC K) 0) 490 u6.2.2.2.2.1)], [(a 9, aJ ((kC K) 0) 8 u6.2.2.2.2.2)]] [some (.ref (a 0))] 17 [.int (iI x1), .ref (a 0)] := by
    intro x1 hx1
    have hbx1 : x1 = 0 ∨ x1 = 1 := by rw [hx1]; split <;> omega
    have qx1 := ite01 hx1
    refine j_iconst C dX6_dischargeBest_17 ?_
    refine j_iconst C dX6_dischargeBest_18 ?_
    refine j_perm (pm_8_0 _ _ _ _ _ _ _ _) ?_
    refine j_callVi C (As := [.int (iI _), .int (iI _), .int (iI _)]) (c_X6_goes _ _ _ _ _ _ _ _ (by first | assumption | omega) (by first | assumption | omega) (by first | assumption | omega)) 3 nf_X6_goes (jb := 0) rfl rfl wL_X6_146 wI_X6_goes wSe_X6_X6_goes wIn_X6 wC_X6_goes rfl rfl (by decide) dX6_dischargeBest_19 (Nat.le_of_ble_eq_true rfl) ⟨Nat.le_of_ble_eq_true rfl, Nat.le_of_ble_eq_true rfl⟩ (fun x19 u19 h19 => ?_)
    refine j_perm (pr_8_0 _ _ _ _ _ _ _ _) ?_
    have q19 := goes3 h19
    refine j_if_ne (tgt := 27) C dX6_dischargeBest_22 (by decide) (by omega) (by omega) (fun c22 => ?_) (fun c22 => ?_)
    · refine j_aload_n C dX6_dischargeBest_27 rfl ?_
      refine j_perm (pm_8_0_1_2 _ _ _ _ _ _ _ _) ?_
      refine j_callVv C (As := []) (c_X6_saves _ _ _ _ _ _ _ (by rw [show st u6.1 2 u19 0 = G 0 from (st_n (by omega)).trans (hk6 0 (by omega))]; exact hc)) 0 nf_X6_saves (jb := 0) rfl rfl wL_X6_150 wI_X6_saves wSe_X6_X6_saves wIn_X6 wC_X6_saves rfl rfl (by decide) dX6_dischargeBest_28 (Nat.le_of_ble_eq_true rfl) ⟨Nat.le_of_ble_eq_true rfl, Nat.le_of_ble_eq_true rfl⟩ (fun u28 h28 => ?_)
      refine j_perm (pr_8_0_1_2 _ _ _ _ _ _ _ _) ?_
      have hRV := RV2_of (RU_KG0 hk6 (RU_of (G := u6.1) (show u19 = 0 by omega))) h28
      have hnb : best S ≠ -1 := by omega
      have hnbM : best M ≠ -1 := by rw [(best_ag hI hA).1]; exact hnb
      refine j_aload_n C dX6_dischargeBest_31 rfl ?_
      refine j_aload_n C dX6_dischargeBest_32 rfl ?_
      refine j_get C 0 0 0 rfl rfl rfl wU_X6 (by decide) wF_X6_7 rfl dX6_dischargeBest_33 ?_
      refine j_perm (pm_8_0_1_3_5_6_7 _ _ _ _ _ _ _ _) ?_
      refine j_callVv C (As := [.ref _]) (c_X6_dischargesBest _ _ _ _ _ _ _ _ _ _ _ (by exact Ag_Inv hI hA) (by exact hnbM) (by exact hd6) (by rw [st_n (by omega), st_n (by omega)]; exact (hn6 hnbM).1) (by exact (hn6 hnbM).2)) 1 nf_X6_dischargesBest (jb := 0) rfl rfl wL_X6_142 wI_X6_dischargesBest wSe_X6_X6_dischargesBest wIn_X6 wC_X6_dischargesBest rfl rfl (by decide) dX6_dischargeBest_36 (Nat.le_of_ble_eq_true rfl) ⟨Nat.le_of_ble_eq_true rfl, Nat.le_of_ble_eq_true rfl⟩ (fun u36 h36 => ?_)
      refine j_perm (pr_8_0_1_3_5_6_7 _ _ _ _ _ _ _ _) ?_
      refine j_aload_n C dX6_dischargeBest_39 rfl ?_
      refine j_get C 0 0 14 rfl rfl rfl wU_X6 (by decide) wF_X6_124 rfl dX6_dischargeBest_40 ?_
      refine hR (st (st (st u6.1 2 u19) 0 (if (st u6.1 2 u19) 0 < 4 then (st u6.1 2 u19) 0 + 1 else 4)) 4 ((st (st u6.1 2 u19) 0 (if (st u6.1 2 u19) 0 < 4 then (st u6.1 2 u19) 0 + 1 else 4)) 7), disB M, u28, u36, u6.2.2.1, u6.2.2.2.1, u6.2.2.2.2.1, u6.2.2.2.2.2) dX6_dischargeBest_43 ?_ rfl (Nat.le_of_ble_eq_true rfl) (Nat.le_of_ble_eq_true rfl)
      refine Or.inl ⟨by have : (RS S).length ≠ 0 := fun q => hnb (hbn.mpr q); omega, ?_, ?_, RV2_KG hRV (KG_st (KG_rfl _) (by omega))⟩
      · rw [st_n (by omega), st_n (by omega), st_n (by omega)]
        exact hb6.2
      · rw [if_neg hnb]
        exact disB_Ag hI hA hnb
    · refine j_iconst C dX6_dischargeBest_25 ?_
      refine hR (st u6.1 2 u19, M, V, u6.2.1, u6.2.2.1, u6.2.2.2.1, u6.2.2.2.2.1, u6.2.2.2.2.2) dX6_dischargeBest_26 ?_ rfl (Nat.le_of_ble_eq_true rfl) (Nat.le_of_ble_eq_true rfl)
      exact Or.inr ⟨⟨rfl, rfl⟩, hbn.mp (by omega), RU_KG0 hk6 (RU_of (by omega))⟩
  have hx6b : (x6 = 0 ∧ best S = -1) ∨ (x6 = 1 ∧ best S ≠ -1) := by rw [hx6]; split; (left; exact ⟨rfl, by assumption⟩); (right; exact ⟨rfl, by assumption⟩)
  refine j_if_ne (tgt := 16) C dX6_dischargeBest_9 (by decide) (by omega) (by omega) (fun c9 => ?_) (fun c9 => ?_)
  · refine j_iconst C dX6_dischargeBest_16 ?_
    exact L17 _ (by first | (rw [if_pos (by omega)]; done) | (rw [if_neg (by omega)]; done))
  · refine j_iconst C dX6_dischargeBest_12 ?_
    refine j_goto (tgt := 17) C dX6_dischargeBest_13 (by decide) ?_
    exact L17 _ (by first | (rw [if_pos (by omega)]; done) | (rw [if_neg (by omega)]; done))
set_option maxHeartbeats 800000 in
set_option maxRecDepth 100000 in
theorem c_X6_dischargeAll (l : Launch) (D : va_G) (cA : Nat → ClassId) (a : Nat → Nat) (G M V R N1 D1 B1 BR S : Int → Int) (hI : Inv S) (hA : Ag S M) (hc : 0 ≤ G 0 ∧ G 0 ≤ 4) : MI (U := (Int → Int) × (Int → Int) × (Int → Int) × (Int → Int) × (Int → Int) × (Int → Int) × (Int → Int) × (Int → Int)) l yX6_dischargeAll cX6_dischargeAll 1 (some .int) (rmN 8 0 0) D cA [.ref (a 0)] [mO a G, [(a 1, aJ (cA 0) 325 M)], [(a 3, aJ (cA 0) 1300 V)], [(a 7, aJ (cA 0) 8 R)], [(a 8, aJ (cA 0) 9 N1)], [(a 5, aJ (cA 0) 49 D1)], [(a 6, aJ (cA 0) 490 B1)], [(a 9, aJ (cA 0) 8 BR)]] (fun z u => z = (disA 49 S 0).2 ∧ Ag (disA 49 S 0).1 u.2.1 ∧ RV2 G M V u.1 u.2.2.1) (fun u => [mO a u.1, [(a 1, aJ (cA 0) 325 u.2.1)], [(a 3, aJ (cA 0) 1300 u.2.2.1)], [(a 7, aJ (cA 0) 8 u.2.2.2.1)], [(a 8, aJ (cA 0) 9 u.2.2.2.2.1)], [(a 5, aJ (cA 0) 49 u.2.2.2.2.2.1)], [(a 6, aJ (cA 0) 490 u.2.2.2.2.2.2.1)], [(a 9, aJ (cA 0) 8 u.2.2.2.2.2.2.2)]]) := by
  refine m_startI pn_X6 rfl (List.forall_mem_cons.mpr ⟨rfl, fun _ h => absurd h List.not_mem_nil⟩) (Nat.le_of_ble_eq_true rfl) ?_
  intro K C e1 e2 e3 hin hR
  subst e1 e2 e3
  have hN := hI.2.1
  have hQ := hI.1
  have hM := Ag_h hA hN.1
  have hM0 := hM.1
  have hM1 := hM.2.1
  show J K 0 0 [mO a G, [(a 1, aJ ((kC K) 0) 325 M)], [(a 3, aJ ((kC K) 0) 1300 V)], [(a 7, aJ ((kC K) 0) 8 R)], [(a 8, aJ ((kC K) 0) 9 N1)], [(a 5, aJ ((kC K) 0) 49 D1)], [(a 6, aJ ((kC K) 0) 490 B1)], [(a 9, aJ ((kC K) 0) 8 BR)]] [some (.ref (a 0))] 0 []
  refine j_aload_n C dX6_dischargeAll_0 rfl ?_
  refine j_iconst C dX6_dischargeAll_1 ?_
  refine j_iconst C dX6_dischargeAll_2 ?_
  refine j_iconst C dX6_dischargeAll_3 ?_
  refine j_perm (pm_8_0 _ _ _ _ _ _ _ _) ?_
  refine j_callVi C (As := [.int (iI _), .int (iI _), .int (iI _)]) (c_X6_goes _ _ _ _ _ _ _ _ (by first | assumption | omega) (by first | assumption | omega) (by first | assumption | omega)) 3 nf_X6_goes (jb := 0) rfl rfl wL_X6_146 wI_X6_goes wSe_X6_X6_goes wIn_X6 wC_X6_goes rfl rfl (by decide) dX6_dischargeAll_4 (Nat.le_of_ble_eq_true rfl) ⟨Nat.le_of_ble_eq_true rfl, Nat.le_of_ble_eq_true rfl⟩ (fun x4 u4 h4 => ?_)
  refine j_perm (pr_8_0 _ _ _ _ _ _ _ _) ?_
  have q4 := goes3 h4
  refine j_pop C dX6_dischargeAll_7 rfl ?_
  refine j_aload_n C dX6_dischargeAll_8 rfl ?_
  refine j_perm (pm_8_0_1_2 _ _ _ _ _ _ _ _) ?_
  refine j_callVv C (As := []) (c_X6_saves _ _ _ _ _ _ _ (by rw [show st G 2 u4 0 = G 0 from st_n (by omega)]; exact hc)) 0 nf_X6_saves (jb := 0) rfl rfl wL_X6_150 wI_X6_saves wSe_X6_X6_saves wIn_X6 wC_X6_saves rfl rfl (by decide) dX6_dischargeAll_9 (Nat.le_of_ble_eq_true rfl) ⟨Nat.le_of_ble_eq_true rfl, Nat.le_of_ble_eq_true rfl⟩ (fun u9 h9 => ?_)
  refine j_perm (pr_8_0_1_2 _ _ _ _ _ _ _ _) ?_
  have hRV := RV2_of (RU_of (G := G) (show u4 = 0 by omega)) h9
  refine j_aload_n C dX6_dischargeAll_12 rfl ?_
  refine j_aload_n C dX6_dischargeAll_13 rfl ?_
  refine j_get C 0 0 0 rfl rfl rfl wU_X6 (by decide) wF_X6_7 rfl dX6_dischargeAll_14 ?_
  refine j_perm (pm_8_0_1_3_4_5_6_7 _ _ _ _ _ _ _ _) ?_
  refine j_callVi C (As := [.ref _]) (c_X6_dischargesAll _ _ _ _ _ _ _ _ _ _ _ _ (by exact Ag_Inv hI hA)) 1 nf_X6_dischargesAll (jb := 0) rfl rfl wL_X6_172 wI_X6_dischargesAll wSe_X6_X6_dischargesAll wIn_X6 wC_X6_dischargesAll rfl rfl (by decide) dX6_dischargeAll_17 (Nat.le_of_ble_eq_true rfl) ⟨Nat.le_of_ble_eq_true rfl, Nat.le_of_ble_eq_true rfl⟩ (fun x17 u17 h17 => ?_)
  refine j_perm (pr_8_0_1_3_4_5_6_7 _ _ _ _ _ _ _ _) ?_
  refine hR (u17.1, (disA 49 M 0).1, u9, u17.2.1, u17.2.2.1, u17.2.2.2.1, u17.2.2.2.2.1, u17.2.2.2.2.2) dX6_dischargeAll_20 ?_ rfl (Nat.le_of_ble_eq_true rfl) (Nat.le_of_ble_eq_true rfl)
  have hdA := disA_Ag 49 S M 0 hI hA
  exact ⟨h17.2.trans hdA.2, hdA.1, RV2_KG hRV h17.1⟩
set_option maxHeartbeats 800000 in
set_option maxRecDepth 100000 in
theorem c_X6_promiseOf (l : Launch) (D : va_G) (cA : Nat → ClassId) (a : Nat → Nat) (G M S : Int → Int) (i w : Int) (hI : Inv S) (hA : Ag S M) (hi : -2147483648 ≤ i ∧ i < 2147483648) (hw : -2147483648 ≤ w ∧ w < 2147483648) : MI (U := Int → Int) l yX6_promiseOf cX6_promiseOf 3 (some .int) (rmN 3 0 0) D cA [.ref (a 0), .int (iI i), .int (iI w)] [mO a G, [(a 1, aJ (cA 0) 325 M)]] (fun z u => (((0 ≤ i ∧ i < S 1) ∧ 0 ≤ w ∧ w ≤ 7) ∧ z = S (5 + 8 * i + w) ∧ RU G u 0) ∨ (¬ (0 ≤ i ∧ i < S 1) ∧ RU G u 1) ∨ ((0 ≤ i ∧ i < S 1) ∧ ¬ (0 ≤ w ∧ w ≤ 7) ∧ RU G u 2)) (fun u => [mO a u, [(a 1, aJ (cA 0) 325 M)]]) := by
  refine m_startI pn_X6 rfl (List.forall_mem_cons.mpr ⟨rfl, List.forall_mem_cons.mpr ⟨rfl, List.forall_mem_cons.mpr ⟨rfl, fun _ h => absurd h List.not_mem_nil⟩⟩⟩) (Nat.le_of_ble_eq_true rfl) ?_
  intro K C e1 e2 e3 hin hR
  subst e1 e2 e3
  have hN := hI.2.1
  have hQ := hI.1
  have hM := Ag_h hA hN.1
  have hM0 := hM.1
  have hM1 := hM.2.1
  show J K 0 0 [mO a G, [(a 1, aJ ((kC K) 0) 325 M)]] [some (.ref (a 0)), some (.int (iI i)), some (.int (iI w))] 0 []
  refine j_aload_n C dX6_promiseOf_0 rfl ?_
  have L14 : ∀ (x1 : Int) (hx1 : x1 = if ¬ (0 ≤ i ∧ i < S 1) then 1 else 0), J K 0 0 [mO a G, [(a 1, aJ ((kC K) 0) 325 M)]] [some (.ref (a 0)), some (.int (iI i)), some (.int (iI w))] 14 [.int (iI x1), .ref (a 0)] := by
    intro x1 hx1
    have hbx1 : x1 = 0 ∨ x1 = 1 := by rw [hx1]; split <;> omega
    have qx1 := ite01 hx1
    have L29 : ∀ (y1 : Int) (hy1 : y1 = if ¬ (0 ≤ w ∧ w ≤ 7) then 1 else 0), J K 0 0 [mO a G, [(a 1, aJ ((kC K) 0) 325 M)]] [some (.ref (a 0)), some (.int (iI i)), some (.int (iI w))] 29 [.int (iI y1), .int (iI x1), .ref (a 0)] := by
      intro y1 hy1
      have hby1 : y1 = 0 ∨ y1 = 1 := by rw [hy1]; split <;> omega
      have qy1 := ite01 hy1
      refine j_iconst C dX6_promiseOf_29 ?_
      refine j_perm (pm_2_0 _ _) ?_
      refine j_callVi C (As := [.int (iI _), .int (iI _), .int (iI _)]) (c_X6_goes _ _ _ _ _ _ _ _ (by first | assumption | omega) (by first | assumption | omega) (by first | assumption | omega)) 3 nf_X6_goes (jb := 0) rfl rfl wL_X6_146 wI_X6_goes wSe_X6_X6_goes wIn_X6 wC_X6_goes rfl rfl (by decide) dX6_promiseOf_30 (Nat.le_of_ble_eq_true rfl) ⟨Nat.le_of_ble_eq_true rfl, Nat.le_of_ble_eq_true rfl⟩ (fun x30 u30 h30 => ?_)
      refine j_perm (pr_2_0 _ _) ?_
      have q30 := goes3 h30
      refine j_if_eq (tgt := 49) C dX6_promiseOf_33 (by decide) (by omega) (by omega) (fun c33 => ?_) (fun c33 => ?_)
      · refine j_iconst C dX6_promiseOf_49 ?_
        refine hR (st G 2 u30) dX6_promiseOf_50 ?_ rfl (Nat.le_of_ble_eq_true rfl) (Nat.le_of_ble_eq_true rfl)
        first
        | exact Or.inl ⟨⟨by omega, by omega⟩, hA.1 _ (by omega) (by omega), RU_of (by omega)⟩
        | (rcases q30 with q | q | q | q
           · exact Or.inr (Or.inl ⟨by omega, RU_of q.2.1⟩)
           · exact Or.inr (Or.inr ⟨by omega, by omega, RU_of q.2.2.1⟩)
           · omega
           · omega)
      · refine j_aload_n C dX6_promiseOf_36 rfl ?_
        refine j_get C 0 0 0 rfl rfl rfl wU_X6 (by decide) wF_X6_7 rfl dX6_promiseOf_37 ?_
        refine j_iload_n C dX6_promiseOf_40 rfl ?_
        refine j_iload_n C dX6_promiseOf_41 rfl ?_
        refine j_perm (pm_2 _ _) ?_
        refine j_callSi C (As := [.int (iI _), .int (iI _)]) (c_X6_p _ _ _ _ _ ) 2 nf_X6_p.2 wL_X6_79 wS_X6_p wIn_X6 wC_X6_p rfl rfl (by decide) dX6_promiseOf_42 (Nat.le_of_ble_eq_true rfl) ⟨Nat.le_of_ble_eq_true rfl, Nat.le_of_ble_eq_true rfl⟩ (fun x42 u42 h42 => ?_)
        refine j_perm (pr_2 _ _) ?_
        subst h42
        refine j_iald C 1 0 rfl rfl dX6_promiseOf_45 (by decide) (by omega) (by omega) ?_
        refine j_goto (tgt := 50) C dX6_promiseOf_46 (by decide) ?_
        refine hR (st G 2 u30) dX6_promiseOf_50 ?_ rfl (Nat.le_of_ble_eq_true rfl) (Nat.le_of_ble_eq_true rfl)
        first
        | exact Or.inl ⟨⟨by omega, by omega⟩, hA.1 _ (by omega) (by omega), RU_of (by omega)⟩
        | (rcases q30 with q | q | q | q
           · exact Or.inr (Or.inl ⟨by omega, RU_of q.2.1⟩)
           · exact Or.inr (Or.inr ⟨by omega, by omega, RU_of q.2.2.1⟩)
           · omega
           · omega)
    refine j_iload_n C dX6_promiseOf_14 rfl ?_
    refine j_iconst C dX6_promiseOf_15 ?_
    refine j_bipush C dX6_promiseOf_16 (by decide) ?_
    refine j_perm (pm_2 _ _) ?_
    refine j_callSi C (As := [.int (iI _), .int (iI _), .int (iI _)]) (c_X6_in _ _ _ _ _ _ (by first | assumption | omega) (by first | assumption | omega) (by first | assumption | omega)) 3 nf_X6_in.2 wL_X6_68 wS_X6_in wIn_X6 wC_X6_in rfl rfl (by decide) dX6_promiseOf_18 (Nat.le_of_ble_eq_true rfl) ⟨Nat.le_of_ble_eq_true rfl, Nat.le_of_ble_eq_true rfl⟩ (fun x18 u18 h18 => ?_)
    refine j_perm (pr_2 _ _) ?_
    have q18 := ite01 h18
    refine j_if_ne (tgt := 28) C dX6_promiseOf_21 (by decide) (by omega) (by omega) (fun c21 => ?_) (fun c21 => ?_)
    · refine j_iconst C dX6_promiseOf_28 ?_
      exact L29 _ (by first | (rw [if_pos (by omega)]; done) | (rw [if_neg (by omega)]; done))
    · refine j_iconst C dX6_promiseOf_24 ?_
      refine j_goto (tgt := 29) C dX6_promiseOf_25 (by decide) ?_
      exact L29 _ (by first | (rw [if_pos (by omega)]; done) | (rw [if_neg (by omega)]; done))
  refine j_aload_n C dX6_promiseOf_1 rfl ?_
  refine j_iload_n C dX6_promiseOf_2 rfl ?_
  refine j_perm (pm_2_0_1 _ _) ?_
  refine j_callVi C (As := [.int (iI _)]) (c_X6_isPromise _ _ _ _ _ _ _ (by first | assumption | omega) (by first | assumption | omega)) 1 nf_X6_isPromise (jb := 0) rfl rfl wL_X6_160 wI_X6_isPromise wSe_X6_X6_isPromise wIn_X6 wC_X6_isPromise rfl rfl (by decide) dX6_promiseOf_3 (Nat.le_of_ble_eq_true rfl) ⟨Nat.le_of_ble_eq_true rfl, Nat.le_of_ble_eq_true rfl⟩ (fun x3 u3 h3 => ?_)
  refine j_perm (pr_2_0_1 _ _) ?_
  have q3 := ite01 h3
  refine j_if_ne (tgt := 13) C dX6_promiseOf_6 (by decide) (by omega) (by omega) (fun c6 => ?_) (fun c6 => ?_)
  · refine j_iconst C dX6_promiseOf_13 ?_
    exact L14 _ (by first | (rw [if_pos (by omega)]; done) | (rw [if_neg (by omega)]; done))
  · refine j_iconst C dX6_promiseOf_9 ?_
    refine j_goto (tgt := 14) C dX6_promiseOf_10 (by decide) ?_
    exact L14 _ (by first | (rw [if_pos (by omega)]; done) | (rw [if_neg (by omega)]; done))
set_option maxHeartbeats 800000 in
set_option maxRecDepth 100000 in
theorem c_X6_debtOf (l : Launch) (D : va_G) (cA : Nat → ClassId) (a : Nat → Nat) (G M N1 D1 B1 S : Int → Int) (p q : Int) (hI : Inv S) (hA : Ag S M) (hp : 0 ≤ p ∧ p < 7) (hq : 0 ≤ q ∧ q < 7) : MI (U := (Int → Int) × (Int → Int) × (Int → Int) × (Int → Int)) l yX6_debtOf cX6_debtOf 3 (some .int) (rmN 3 0 0) D cA [.ref (a 0), .int (iI p), .int (iI q)] [mO a G, [(a 1, aJ (cA 0) 325 M)], [(a 8, aJ (cA 0) 9 N1)], [(a 5, aJ (cA 0) 49 D1)], [(a 6, aJ (cA 0) 490 B1)]] (fun z u => z = debS S p q ∧ KG G u.1) (fun u => [mO a u.1, [(a 1, aJ (cA 0) 325 M)], [(a 8, aJ (cA 0) 9 u.2.1)], [(a 5, aJ (cA 0) 49 u.2.2.1)], [(a 6, aJ (cA 0) 490 u.2.2.2)]]) := by
  refine m_startI pn_X6 rfl (List.forall_mem_cons.mpr ⟨rfl, List.forall_mem_cons.mpr ⟨rfl, List.forall_mem_cons.mpr ⟨rfl, fun _ h => absurd h List.not_mem_nil⟩⟩⟩) (Nat.le_of_ble_eq_true rfl) ?_
  intro K C e1 e2 e3 hin hR
  subst e1 e2 e3
  show J K 0 0 [mO a G, [(a 1, aJ ((kC K) 0) 325 M)], [(a 8, aJ ((kC K) 0) 9 N1)], [(a 5, aJ ((kC K) 0) 49 D1)], [(a 6, aJ ((kC K) 0) 490 B1)]] [some (.ref (a 0)), some (.int (iI p)), some (.int (iI q))] 0 []
  refine j_aload_n C dX6_debtOf_0 rfl ?_
  refine j_aload_n C dX6_debtOf_1 rfl ?_
  refine j_get C 0 0 0 rfl rfl rfl wU_X6 (by decide) wF_X6_7 rfl dX6_debtOf_2 ?_
  refine j_iconst C dX6_debtOf_5 ?_
  refine j_perm (pm_5_0_1_3_4_2 _ _ _ _ _) ?_
  refine j_callVv C (As := [.ref _, .int (iI _)]) (c_X6_begins _ _ _ _ _ _ _ _ _ _ _ (by exact Ag_Inv hI hA) (by omega)) 2 nf_X6_begins (jb := 0) rfl rfl wL_X6_96 wI_X6_begins wSe_X6_X6_begins wIn_X6 wC_X6_begins rfl rfl (by decide) dX6_debtOf_6 (Nat.le_of_ble_eq_true rfl) ⟨Nat.le_of_ble_eq_true rfl, Nat.le_of_ble_eq_true rfl⟩ (fun u6 h6 => ?_)
  refine j_perm (pr_5_0_1_3_4_2 _ _ _ _ _) ?_
  refine j_aload_n C dX6_debtOf_9 rfl ?_
  refine j_get C 0 0 7 rfl rfl rfl wU_X6 (by decide) wF_X6_22 rfl dX6_debtOf_10 ?_
  refine j_bipush C dX6_debtOf_13 (by decide) ?_
  refine j_iload_n C dX6_debtOf_15 rfl ?_
  refine j_imul C dX6_debtOf_16 ?_
  refine j_iload_n C dX6_debtOf_17 rfl ?_
  refine j_iadd C dX6_debtOf_18 ?_
  refine j_iald C 3 0 rfl rfl dX6_debtOf_19 (by decide) (by omega) (by omega) ?_
  refine hR (st (st G 3 (M 0)) 4 0, st N1 0 0, u6.1, u6.2) dX6_debtOf_20 ?_ rfl (Nat.le_of_ble_eq_true rfl) (Nat.le_of_ble_eq_true rfl)
  refine ⟨?_, KG_34 _ _ _⟩
  rw [h6.1 _ (by omega) (by omega), dWn, dQ_ag hI hA, debS_ag hI hp hq]
set_option maxHeartbeats 800000 in
set_option maxRecDepth 100000 in
theorem c_X6_debt (l : Launch) (D : va_G) (cA : Nat → ClassId) (a : Nat → Nat) (G M N1 D1 B1 S : Int → Int) (f t : Int) (hI : Inv S) (hA : Ag S M) (hf : -2147483648 ≤ f ∧ f < 2147483648) (ht : -2147483648 ≤ t ∧ t < 2147483648) : MI (U := (Int → Int) × (Int → Int) × (Int → Int) × (Int → Int)) l yX6_debt cX6_debt 3 (some .int) (rmN 4 0 0) D cA [.ref (a 0), .int (iI f), .int (iI t)] [mO a G, [(a 1, aJ (cA 0) 325 M)], [(a 8, aJ (cA 0) 9 N1)], [(a 5, aJ (cA 0) 49 D1)], [(a 6, aJ (cA 0) 490 B1)]] (fun z u => (((0 ≤ f ∧ f < S 0) ∧ 0 ≤ t ∧ t < S 0) ∧ z = debS S f t ∧ RU G u.1 0) ∨ (¬ ((0 ≤ f ∧ f < S 0) ∧ 0 ≤ t ∧ t < S 0) ∧ RU G u.1 1)) (fun u => [mO a u.1, [(a 1, aJ (cA 0) 325 M)], [(a 8, aJ (cA 0) 9 u.2.1)], [(a 5, aJ (cA 0) 49 u.2.2.1)], [(a 6, aJ (cA 0) 490 u.2.2.2)]]) := by
  refine m_startI pn_X6 rfl (List.forall_mem_cons.mpr ⟨rfl, List.forall_mem_cons.mpr ⟨rfl, List.forall_mem_cons.mpr ⟨rfl, fun _ h => absurd h List.not_mem_nil⟩⟩⟩) (Nat.le_of_ble_eq_true rfl) ?_
  intro K C e1 e2 e3 hin hR
  subst e1 e2 e3
  have hN := hI.2.1
  have hQ := hI.1
  have hM := Ag_h hA hN.1
  have hM0 := hM.1
  have hM1 := hM.2.1
  show J K 0 0 [mO a G, [(a 1, aJ ((kC K) 0) 325 M)], [(a 8, aJ ((kC K) 0) 9 N1)], [(a 5, aJ ((kC K) 0) 49 D1)], [(a 6, aJ ((kC K) 0) 490 B1)]] [some (.ref (a 0)), some (.int (iI f)), some (.int (iI t))] 0 []
  refine j_aload_n C dX6_debt_0 rfl ?_
  have L22 : ∀ (x1 : Int) (hx1 : x1 = if ¬ ((0 ≤ f ∧ f < S 0) ∧ 0 ≤ t ∧ t < S 0) then 1 else 0), J K 0 0 [mO a G, [(a 1, aJ ((kC K) 0) 325 M)], [(a 8, aJ ((kC K) 0) 9 N1)], [(a 5, aJ ((kC K) 0) 49 D1)], [(a 6, aJ ((kC K) 0) 490 B1)]] [some (.ref (a 0)), some (.int (iI f)), some (.int (iI t))] 22 [.int (iI x1), .ref (a 0)] := by
    intro x1 hx1
    have hbx1 : x1 = 0 ∨ x1 = 1 := by rw [hx1]; split <;> omega
    have qx1 := ite01 hx1
    refine j_iconst C dX6_debt_22 ?_
    refine j_iconst C dX6_debt_23 ?_
    have L40 : ∀ (z : Int) (G5 N5 D5 B5 : Int → Int) (hz : (((0 ≤ f ∧ f < S 0) ∧ 0 ≤ t ∧ t < S 0) ∧ z = debS S f t ∧ RU G G5 0) ∨ (¬ ((0 ≤ f ∧ f < S 0) ∧ 0 ≤ t ∧ t < S 0) ∧ RU G G5 1)), J K 0 0 [mO a G5, [(a 1, aJ ((kC K) 0) 325 M)], [(a 8, aJ ((kC K) 0) 9 N5)], [(a 5, aJ ((kC K) 0) 49 D5)], [(a 6, aJ ((kC K) 0) 490 B5)]] [some (.ref (a 0)), some (.int (iI f)), some (.int (iI t))] 40 [.int (iI z)] := by
      intro z G5 N5 D5 B5 hz
      exact hR (G5, N5, D5, B5) dX6_debt_40 (by exact hz) rfl (Nat.le_of_ble_eq_true rfl) (Nat.le_of_ble_eq_true rfl)
    refine j_perm (pm_5_0 _ _ _ _ _) ?_
    refine j_callVi C (As := [.int (iI _), .int (iI _), .int (iI _)]) (c_X6_goes _ _ _ _ _ _ _ _ (by first | assumption | omega) (by first | assumption | omega) (by first | assumption | omega)) 3 nf_X6_goes (jb := 0) rfl rfl wL_X6_146 wI_X6_goes wSe_X6_X6_goes wIn_X6 wC_X6_goes rfl rfl (by decide) dX6_debt_24 (Nat.le_of_ble_eq_true rfl) ⟨Nat.le_of_ble_eq_true rfl, Nat.le_of_ble_eq_true rfl⟩ (fun x24 u24 h24 => ?_)
    refine j_perm (pr_5_0 _ _ _ _ _) ?_
    have q24 := goes3 h24
    refine j_if_eq (tgt := 39) C dX6_debt_27 (by decide) (by omega) (by omega) (fun c27 => ?_) (fun c27 => ?_)
    · refine j_iconst C dX6_debt_39 ?_
      exact L40 _ _ _ _ _ (by first | exact Or.inl ⟨by omega, h33.1, RU_KG (RU_of (by omega)) h33.2⟩ | exact Or.inr ⟨by omega, RU_of (by omega)⟩)
    · refine j_aload_n C dX6_debt_30 rfl ?_
      refine j_iload_n C dX6_debt_31 rfl ?_
      refine j_iload_n C dX6_debt_32 rfl ?_
      refine j_perm (pm_5_0_1_2_3_4 _ _ _ _ _) ?_
      refine j_callVi C (As := [.int (iI _), .int (iI _)]) (c_X6_debtOf _ _ _ _ _ _ _ _ _ (S) _ _ (by first | assumption | omega) (by first | assumption | omega) (by first | assumption | omega) (by first | assumption | omega)) 2 nf_X6_debtOf (jb := 0) rfl rfl wL_X6_176 wI_X6_debtOf wSe_X6_X6_debtOf wIn_X6 wC_X6_debtOf rfl rfl (by decide) dX6_debt_33 (Nat.le_of_ble_eq_true rfl) ⟨Nat.le_of_ble_eq_true rfl, Nat.le_of_ble_eq_true rfl⟩ (fun x33 u33 h33 => ?_)
      refine j_perm (pr_5_0_1_2_3_4 _ _ _ _ _) ?_
      refine j_goto (tgt := 40) C dX6_debt_36 (by decide) ?_
      exact L40 _ _ _ _ _ (by first | exact Or.inl ⟨by omega, h33.1, RU_KG (RU_of (by omega)) h33.2⟩ | exact Or.inr ⟨by omega, RU_of (by omega)⟩)
  refine j_aload_n C dX6_debt_1 rfl ?_
  refine j_iload_n C dX6_debt_2 rfl ?_
  refine j_perm (pm_5_0_1 _ _ _ _ _) ?_
  refine j_callVi C (As := [.int (iI _)]) (c_X6_isParty _ _ _ _ _ _ _ (by first | assumption | omega) (by first | assumption | omega)) 1 nf_X6_isParty (jb := 0) rfl rfl wL_X6_153 wI_X6_isParty wSe_X6_X6_isParty wIn_X6 wC_X6_isParty rfl rfl (by decide) dX6_debt_3 (Nat.le_of_ble_eq_true rfl) ⟨Nat.le_of_ble_eq_true rfl, Nat.le_of_ble_eq_true rfl⟩ (fun x3 u3 h3 => ?_)
  refine j_perm (pr_5_0_1 _ _ _ _ _) ?_
  have q3 := ite01 h3
  refine j_if_eq (tgt := 17) C dX6_debt_6 (by decide) (by omega) (by omega) (fun c6 => ?_) (fun c6 => ?_)
  · refine j_iconst C dX6_debt_17 ?_
    refine j_goto (tgt := 22) C dX6_debt_18 (by decide) ?_
    exact L22 _ (by first | (rw [if_pos (by omega)]; done) | (rw [if_neg (by omega)]; done))
  · refine j_aload_n C dX6_debt_9 rfl ?_
    refine j_iload_n C dX6_debt_10 rfl ?_
    refine j_perm (pm_5_0_1 _ _ _ _ _) ?_
    refine j_callVi C (As := [.int (iI _)]) (c_X6_isParty _ _ _ _ _ _ _ (by first | assumption | omega) (by first | assumption | omega)) 1 nf_X6_isParty (jb := 0) rfl rfl wL_X6_153 wI_X6_isParty wSe_X6_X6_isParty wIn_X6 wC_X6_isParty rfl rfl (by decide) dX6_debt_11 (Nat.le_of_ble_eq_true rfl) ⟨Nat.le_of_ble_eq_true rfl, Nat.le_of_ble_eq_true rfl⟩ (fun x11 u11 h11 => ?_)
    refine j_perm (pr_5_0_1 _ _ _ _ _) ?_
    have q11 := ite01 h11
    refine j_if_ne (tgt := 21) C dX6_debt_14 (by decide) (by omega) (by omega) (fun c14 => ?_) (fun c14 => ?_)
    · refine j_iconst C dX6_debt_21 ?_
      exact L22 _ (by first | (rw [if_pos (by omega)]; done) | (rw [if_neg (by omega)]; done))
    · refine j_iconst C dX6_debt_17 ?_
      refine j_goto (tgt := 22) C dX6_debt_18 (by decide) ?_
      exact L22 _ (by first | (rw [if_pos (by omega)]; done) | (rw [if_neg (by omega)]; done))
set_option maxHeartbeats 800000 in
set_option maxRecDepth 100000 in
theorem c_X6_netOf (l : Launch) (D : va_G) (cA : Nat → ClassId) (a : Nat → Nat) (G M S : Int → Int) (p : Int) (hI : Inv S) (hA : Ag S M) (hp : -2147483648 ≤ p ∧ p < 2147483648) : MI (U := Unit) l yX6_netOf cX6_netOf 4 (some .int) (rmN 2 0 0) D cA [.ref (a 0), .int (iI p)] [mO a G, [(a 1, aJ (cA 0) 325 M)]] (fun z _ => z = netS S p) (fun _ => [mO a G, [(a 1, aJ (cA 0) 325 M)]]) := by
  refine m_startI pn_X6 rfl (List.forall_mem_cons.mpr ⟨rfl, List.forall_mem_cons.mpr ⟨rfl, fun _ h => absurd h List.not_mem_nil⟩⟩) (Nat.le_of_ble_eq_true rfl) ?_
  intro K C e1 e2 e3 hin hR
  subst e1 e2 e3
  have hN := hI.2.1
  have hQ := hI.1
  have hM := Ag_h hA hN.1
  have hM0 := hM.1
  have hM1 := hM.2.1
  show J K 0 0 [mO a G, [(a 1, aJ ((kC K) 0) 325 M)]] [some (.ref (a 0)), some (.int (iI p)), none, none] 0 []
  refine j_iconst C dX6_netOf_0 ?_
  refine j_istn_2 C dX6_netOf_1 rfl ?_
  refine j_iconst C dX6_netOf_2 ?_
  refine j_istn_3 C dX6_netOf_3 rfl ?_
  have L4 : ∀ (fuel : Nat) (y k : Int) (hk : 0 ≤ k ∧ k ≤ S 1) (hy : y = sumZ (netF S p) k) (hf4 : (S 1 - k).toNat < fuel), J K 0 0 [mO a G, [(a 1, aJ ((kC K) 0) 325 M)]] [some (.ref (a 0)), some (.int (iI p)), some (.int (iI y)), some (.int (iI k))] 4 [] := by
    intro fuel
    induction fuel with
    | zero => intro y k hk hy hf4; exact absurd hf4 (Nat.not_lt_zero _)
    | succ fuel ih4 =>
      intro y k hk hy hf4
      refine j_iload_n C dX6_netOf_4 rfl ?_
      refine j_aload_n C dX6_netOf_5 rfl ?_
      refine j_get C 0 0 0 rfl rfl rfl wU_X6 (by decide) wF_X6_7 rfl dX6_netOf_6 ?_
      refine j_iconst C dX6_netOf_9 ?_
      refine j_iald C 1 0 rfl rfl dX6_netOf_10 (by decide) (by omega) (by omega) ?_
      refine j_icmp_ge (tgt := 82) C dX6_netOf_11 (by decide) (by omega) (by omega) (by omega) (by omega) (fun c11 => ?_) (fun c11 => ?_)
      · refine j_iload_n C dX6_netOf_82 rfl ?_
        refine hR () dX6_netOf_83 ?_ rfl (Nat.le_of_ble_eq_true rfl) (Nat.le_of_ble_eq_true rfl)
        rw [hy, show k = S 1 by omega]
        rfl
      · have e := Ag_c hA hk.1 (show k < S 1 by omega)
        have f := hI.2.2 k hk.1 (by omega)
        refine j_iload_n C dX6_netOf_14 rfl ?_
        have L43 : ∀ (v : Int) (hv : v = if tO S k = p then am S k else 0), J K 0 0 [mO a G, [(a 1, aJ ((kC K) 0) 325 M)]] [some (.ref (a 0)), some (.int (iI p)), some (.int (iI y)), some (.int (iI k))] 43 [.int (iI v), .int (iI y)] := by
          intro v hv
          refine j_iadd C dX6_netOf_43 ?_
          refine j_istn_2 C dX6_netOf_44 rfl ?_
          have L74 : ∀ (v2 : Int) (hv2 : v2 = if fr S k = p then am S k else 0), J K 0 0 [mO a G, [(a 1, aJ ((kC K) 0) 325 M)]] [some (.ref (a 0)), some (.int (iI p)), some (.int (iI (y + v))), some (.int (iI k))] 74 [.int (iI v2), .int (iI (y + v))] := by
            intro v2 hv2
            refine j_isub C dX6_netOf_74 ?_
            refine j_istn_2 C dX6_netOf_75 rfl ?_
            refine j_iinc_3 C dX6_netOf_76 rfl ?_
            refine j_goto (tgt := 4) C dX6_netOf_79 (by decide) ?_
            exact ih4 _ _ (by omega) (by rw [sumZ_s _ hk.1, ← hy]; unfold netF; omega) (by omega)
          refine j_iload_n C dX6_netOf_45 rfl ?_
          refine j_aload_n C dX6_netOf_46 rfl ?_
          refine j_get C 0 0 0 rfl rfl rfl wU_X6 (by decide) wF_X6_7 rfl dX6_netOf_47 ?_
          refine j_iload_n C dX6_netOf_50 rfl ?_
          refine j_iconst C dX6_netOf_51 ?_
          refine j_perm (pm_2 _ _) ?_
          refine j_callSi C (As := [.int (iI _), .int (iI _)]) (c_X6_p _ _ _ _ _ ) 2 nf_X6_p.2 wL_X6_79 wS_X6_p wIn_X6 wC_X6_p rfl rfl (by decide) dX6_netOf_52 (Nat.le_of_ble_eq_true rfl) ⟨Nat.le_of_ble_eq_true rfl, Nat.le_of_ble_eq_true rfl⟩ (fun x52 u52 h52 => ?_)
          refine j_perm (pr_2 _ _) ?_
          subst h52
          refine j_iald C 1 0 rfl rfl dX6_netOf_55 (by decide) (by omega) (by omega) ?_
          refine j_iload_n C dX6_netOf_56 rfl ?_
          refine j_icmp_ne (tgt := 73) C dX6_netOf_57 (by decide) (by omega) (by omega) (by omega) (by omega) (fun c57 => ?_) (fun c57 => ?_)
          · refine j_iconst C dX6_netOf_73 ?_
            exact L74 _ (by first | (rw [if_pos (by omega)]; omega) | (rw [if_neg (by omega)]; done))
          · refine j_aload_n C dX6_netOf_60 rfl ?_
            refine j_get C 0 0 0 rfl rfl rfl wU_X6 (by decide) wF_X6_7 rfl dX6_netOf_61 ?_
            refine j_iload_n C dX6_netOf_64 rfl ?_
            refine j_iconst C dX6_netOf_65 ?_
            refine j_perm (pm_2 _ _) ?_
            refine j_callSi C (As := [.int (iI _), .int (iI _)]) (c_X6_p _ _ _ _ _ ) 2 nf_X6_p.2 wL_X6_79 wS_X6_p wIn_X6 wC_X6_p rfl rfl (by decide) dX6_netOf_66 (Nat.le_of_ble_eq_true rfl) ⟨Nat.le_of_ble_eq_true rfl, Nat.le_of_ble_eq_true rfl⟩ (fun x66 u66 h66 => ?_)
            refine j_perm (pr_2 _ _) ?_
            subst h66
            refine j_iald C 1 0 rfl rfl dX6_netOf_69 (by decide) (by omega) (by omega) ?_
            refine j_goto (tgt := 74) C dX6_netOf_70 (by decide) ?_
            exact L74 _ (by first | (rw [if_pos (by omega)]; omega) | (rw [if_neg (by omega)]; done))
        refine j_aload_n C dX6_netOf_15 rfl ?_
        refine j_get C 0 0 0 rfl rfl rfl wU_X6 (by decide) wF_X6_7 rfl dX6_netOf_16 ?_
        refine j_iload_n C dX6_netOf_19 rfl ?_
        refine j_iconst C dX6_netOf_20 ?_
        refine j_perm (pm_2 _ _) ?_
        refine j_callSi C (As := [.int (iI _), .int (iI _)]) (c_X6_p _ _ _ _ _ ) 2 nf_X6_p.2 wL_X6_79 wS_X6_p wIn_X6 wC_X6_p rfl rfl (by decide) dX6_netOf_21 (Nat.le_of_ble_eq_true rfl) ⟨Nat.le_of_ble_eq_true rfl, Nat.le_of_ble_eq_true rfl⟩ (fun x21 u21 h21 => ?_)
        refine j_perm (pr_2 _ _) ?_
        subst h21
        refine j_iald C 1 0 rfl rfl dX6_netOf_24 (by decide) (by omega) (by omega) ?_
        refine j_iload_n C dX6_netOf_25 rfl ?_
        refine j_icmp_ne (tgt := 42) C dX6_netOf_26 (by decide) (by omega) (by omega) (by omega) (by omega) (fun c26 => ?_) (fun c26 => ?_)
        · refine j_iconst C dX6_netOf_42 ?_
          exact L43 _ (by first | (rw [if_pos (by omega)]; omega) | (rw [if_neg (by omega)]; done))
        · refine j_aload_n C dX6_netOf_29 rfl ?_
          refine j_get C 0 0 0 rfl rfl rfl wU_X6 (by decide) wF_X6_7 rfl dX6_netOf_30 ?_
          refine j_iload_n C dX6_netOf_33 rfl ?_
          refine j_iconst C dX6_netOf_34 ?_
          refine j_perm (pm_2 _ _) ?_
          refine j_callSi C (As := [.int (iI _), .int (iI _)]) (c_X6_p _ _ _ _ _ ) 2 nf_X6_p.2 wL_X6_79 wS_X6_p wIn_X6 wC_X6_p rfl rfl (by decide) dX6_netOf_35 (Nat.le_of_ble_eq_true rfl) ⟨Nat.le_of_ble_eq_true rfl, Nat.le_of_ble_eq_true rfl⟩ (fun x35 u35 h35 => ?_)
          refine j_perm (pr_2 _ _) ?_
          subst h35
          refine j_iald C 1 0 rfl rfl dX6_netOf_38 (by decide) (by omega) (by omega) ?_
          refine j_goto (tgt := 43) C dX6_netOf_39 (by decide) ?_
          exact L43 _ (by first | (rw [if_pos (by omega)]; omega) | (rw [if_neg (by omega)]; done))
  exact L4 _ _ _ (by omega) (by rfl) (Nat.lt_succ_self _)
set_option maxHeartbeats 800000 in
set_option maxRecDepth 100000 in
theorem c_X6_net (l : Launch) (D : va_G) (cA : Nat → ClassId) (a : Nat → Nat) (G M S : Int → Int) (p : Int) (hI : Inv S) (hA : Ag S M) (hp : -2147483648 ≤ p ∧ p < 2147483648) : MI (U := Int → Int) l yX6_net cX6_net 2 (some .int) (rmN 4 0 0) D cA [.ref (a 0), .int (iI p)] [mO a G, [(a 1, aJ (cA 0) 325 M)]] (fun z u => ((0 ≤ p ∧ p < S 0) ∧ z = netS S p ∧ RU G u 0) ∨ (¬ (0 ≤ p ∧ p < S 0) ∧ RU G u 1)) (fun u => [mO a u, [(a 1, aJ (cA 0) 325 M)]]) := by
  refine m_startI pn_X6 rfl (List.forall_mem_cons.mpr ⟨rfl, List.forall_mem_cons.mpr ⟨rfl, fun _ h => absurd h List.not_mem_nil⟩⟩) (Nat.le_of_ble_eq_true rfl) ?_
  intro K C e1 e2 e3 hin hR
  subst e1 e2 e3
  have hN := hI.2.1
  have hQ := hI.1
  have hM := Ag_h hA hN.1
  have hM0 := hM.1
  have hM1 := hM.2.1
  show J K 0 0 [mO a G, [(a 1, aJ ((kC K) 0) 325 M)]] [some (.ref (a 0)), some (.int (iI p))] 0 []
  refine j_aload_n C dX6_net_0 rfl ?_
  have L14 : ∀ (x1 : Int) (hx1 : x1 = if ¬ (0 ≤ p ∧ p < S 0) then 1 else 0), J K 0 0 [mO a G, [(a 1, aJ ((kC K) 0) 325 M)]] [some (.ref (a 0)), some (.int (iI p))] 14 [.int (iI x1), .ref (a 0)] := by
    intro x1 hx1
    have hbx1 : x1 = 0 ∨ x1 = 1 := by rw [hx1]; split <;> omega
    have qx1 := ite01 hx1
    refine j_iconst C dX6_net_14 ?_
    refine j_iconst C dX6_net_15 ?_
    refine j_perm (pm_2_0 _ _) ?_
    refine j_callVi C (As := [.int (iI _), .int (iI _), .int (iI _)]) (c_X6_goes _ _ _ _ _ _ _ _ (by first | assumption | omega) (by first | assumption | omega) (by first | assumption | omega)) 3 nf_X6_goes (jb := 0) rfl rfl wL_X6_146 wI_X6_goes wSe_X6_X6_goes wIn_X6 wC_X6_goes rfl rfl (by decide) dX6_net_16 (Nat.le_of_ble_eq_true rfl) ⟨Nat.le_of_ble_eq_true rfl, Nat.le_of_ble_eq_true rfl⟩ (fun x16 u16 h16 => ?_)
    refine j_perm (pr_2_0 _ _) ?_
    have q16 := goes3 h16
    refine j_if_eq (tgt := 30) C dX6_net_19 (by decide) (by omega) (by omega) (fun c19 => ?_) (fun c19 => ?_)
    · refine j_iconst C dX6_net_30 ?_
      refine hR (st G 2 u16) dX6_net_31 ?_ rfl (Nat.le_of_ble_eq_true rfl) (Nat.le_of_ble_eq_true rfl)
      first
      | exact Or.inl ⟨by omega, h24, RU_of (by omega)⟩
      | exact Or.inr ⟨by omega, RU_of (by omega)⟩
    · refine j_aload_n C dX6_net_22 rfl ?_
      refine j_iload_n C dX6_net_23 rfl ?_
      refine j_perm (pm_2_0_1 _ _) ?_
      refine j_callVi C (As := [.int (iI _)]) (c_X6_netOf _ _ _ _ _ _ (S) _ (by first | assumption | omega) (by first | assumption | omega) (by first | assumption | omega)) 1 nf_X6_netOf (jb := 0) rfl rfl wL_X6_179 wI_X6_netOf wSe_X6_X6_netOf wIn_X6 wC_X6_netOf rfl rfl (by decide) dX6_net_24 (Nat.le_of_ble_eq_true rfl) ⟨Nat.le_of_ble_eq_true rfl, Nat.le_of_ble_eq_true rfl⟩ (fun x24 u24 h24 => ?_)
      refine j_perm (pr_2_0_1 _ _) ?_
      refine j_goto (tgt := 31) C dX6_net_27 (by decide) ?_
      refine hR (st G 2 u16) dX6_net_31 ?_ rfl (Nat.le_of_ble_eq_true rfl) (Nat.le_of_ble_eq_true rfl)
      first
      | exact Or.inl ⟨by omega, h24, RU_of (by omega)⟩
      | exact Or.inr ⟨by omega, RU_of (by omega)⟩
  refine j_aload_n C dX6_net_1 rfl ?_
  refine j_iload_n C dX6_net_2 rfl ?_
  refine j_perm (pm_2_0_1 _ _) ?_
  refine j_callVi C (As := [.int (iI _)]) (c_X6_isParty _ _ _ _ _ _ _ (by first | assumption | omega) (by first | assumption | omega)) 1 nf_X6_isParty (jb := 0) rfl rfl wL_X6_153 wI_X6_isParty wSe_X6_X6_isParty wIn_X6 wC_X6_isParty rfl rfl (by decide) dX6_net_3 (Nat.le_of_ble_eq_true rfl) ⟨Nat.le_of_ble_eq_true rfl, Nat.le_of_ble_eq_true rfl⟩ (fun x3 u3 h3 => ?_)
  refine j_perm (pr_2_0_1 _ _) ?_
  have q3 := ite01 h3
  refine j_if_ne (tgt := 13) C dX6_net_6 (by decide) (by omega) (by omega) (fun c6 => ?_) (fun c6 => ?_)
  · refine j_iconst C dX6_net_13 ?_
    exact L14 _ (by first | (rw [if_pos (by omega)]; done) | (rw [if_neg (by omega)]; done))
  · refine j_iconst C dX6_net_9 ?_
    refine j_goto (tgt := 14) C dX6_net_10 (by decide) ?_
    exact L14 _ (by first | (rw [if_pos (by omega)]; done) | (rw [if_neg (by omega)]; done))
set_option maxHeartbeats 800000 in
set_option maxRecDepth 100000 in
theorem c_X6_ring (l : Launch) (D : va_G) (cA : Nat → ClassId) (a : Nat → Nat) (G M R N1 D1 B1 S : Int → Int) (j k : Int) (hI : Inv S) (hA : Ag S M) (hj : -2147483648 ≤ j ∧ j < 2147483648) (hk : -2147483648 ≤ k ∧ k < 2147483648) : MI (U := (Int → Int) × (Int → Int) × (Int → Int) × (Int → Int) × (Int → Int)) l yX6_ring cX6_ring 3 (some .int) (rmN 5 0 0) D cA [.ref (a 0), .int (iI j), .int (iI k)] [mO a G, [(a 1, aJ (cA 0) 325 M)], [(a 7, aJ (cA 0) 8 R)], [(a 8, aJ (cA 0) 9 N1)], [(a 5, aJ (cA 0) 49 D1)], [(a 6, aJ (cA 0) 490 B1)]] (fun z u => (((0 ≤ j ∧ j < ((RS S).length : Int)) ∧ 0 ≤ k ∧ k < 7) ∧ z = ((RS S).getD j.toNat []).getD k.toNat (-1) ∧ RU G u.1 0) ∨ (¬ (0 ≤ j ∧ j < ((RS S).length : Int)) ∧ RU G u.1 1) ∨ ((0 ≤ j ∧ j < ((RS S).length : Int)) ∧ ¬ (0 ≤ k ∧ k < 7) ∧ RU G u.1 2)) (fun u => [mO a u.1, [(a 1, aJ (cA 0) 325 M)], [(a 7, aJ (cA 0) 8 u.2.1)], [(a 8, aJ (cA 0) 9 u.2.2.1)], [(a 5, aJ (cA 0) 49 u.2.2.2.1)], [(a 6, aJ (cA 0) 490 u.2.2.2.2)]]) := by
  refine m_startI pn_X6 rfl (List.forall_mem_cons.mpr ⟨rfl, List.forall_mem_cons.mpr ⟨rfl, List.forall_mem_cons.mpr ⟨rfl, fun _ h => absurd h List.not_mem_nil⟩⟩⟩) (Nat.le_of_ble_eq_true rfl) ?_
  intro K C e1 e2 e3 hin hR
  subst e1 e2 e3
  have hN := hI.2.1
  have hQ := hI.1
  have hM := Ag_h hA hN.1
  have hM0 := hM.1
  have hM1 := hM.2.1
  show J K 0 0 [mO a G, [(a 1, aJ ((kC K) 0) 325 M)], [(a 7, aJ ((kC K) 0) 8 R)], [(a 8, aJ ((kC K) 0) 9 N1)], [(a 5, aJ ((kC K) 0) 49 D1)], [(a 6, aJ ((kC K) 0) 490 B1)]] [some (.ref (a 0)), some (.int (iI j)), some (.int (iI k))] 0 []
  refine j_aload_n C dX6_ring_0 rfl ?_
  refine j_aload_n C dX6_ring_1 rfl ?_
  refine j_iload_n C dX6_ring_2 rfl ?_
  refine j_perm (pm_6_0_1_2_3_4_5 _ _ _ _ _ _) ?_
  refine j_callVi C (As := [.int (iI _)]) (c_X6_findsRing _ _ _ _ _ _ _ _ _ _ _ (by exact Ag_Inv hI hA) (by first | assumption | omega)) 1 nf_X6_findsRing (jb := 0) rfl rfl wL_X6_169 wI_X6_findsRing wSe_X6_X6_findsRing wIn_X6 wC_X6_findsRing rfl rfl (by decide) dX6_ring_3 (Nat.le_of_ble_eq_true rfl) ⟨Nat.le_of_ble_eq_true rfl, Nat.le_of_ble_eq_true rfl⟩ (fun x3 u3 h3 => ?_)
  refine j_perm (pr_6_0_1_2_3_4_5 _ _ _ _ _ _) ?_
  have hk3 := h3.1
  have hf3 := h3.2
  rw [RS_ag hI hA] at hf3
  have qf3 : (x3 = 1 ∧ (0 ≤ j ∧ j < ((RS S).length : Int))) ∨ (x3 = 0 ∧ ¬ (0 ≤ j ∧ j < ((RS S).length : Int))) := by rcases hf3 with q | q; exact Or.inl ⟨q.1, q.2.1⟩; exact Or.inr q
  have L14 : ∀ (x1 : Int) (hx1 : x1 = if ¬ (0 ≤ j ∧ j < ((RS S).length : Int)) then 1 else 0), J K 0 0 [mO a u3.1, [(a 1, aJ ((kC K) 0) 325 M)], [(a 7, aJ ((kC K) 0) 8 u3.2.1)], [(a 8, aJ ((kC K) 0) 9 u3.2.2.1)], [(a 5, aJ ((kC K) 0) 49 u3.2.2.2.1)], [(a 6, aJ ((kC K) 0) 490 u3.2.2.2.2)]] [some (.ref (a 0)), some (.int (iI j)), some (.int (iI k))] 14 [.int (iI x1), .ref (a 0)] := by
    intro x1 hx1
    have hbx1 : x1 = 0 ∨ x1 = 1 := by rw [hx1]; split <;> omega
    have qx1 := ite01 hx1
    have L29 : ∀ (y1 : Int) (hy1 : y1 = if ¬ (0 ≤ k ∧ k < 7) then 1 else 0), J K 0 0 [mO a u3.1, [(a 1, aJ ((kC K) 0) 325 M)], [(a 7, aJ ((kC K) 0) 8 u3.2.1)], [(a 8, aJ ((kC K) 0) 9 u3.2.2.1)], [(a 5, aJ ((kC K) 0) 49 u3.2.2.2.1)], [(a 6, aJ ((kC K) 0) 490 u3.2.2.2.2)]] [some (.ref (a 0)), some (.int (iI j)), some (.int (iI k))] 29 [.int (iI y1), .int (iI x1), .ref (a 0)] := by
      intro y1 hy1
      have hby1 : y1 = 0 ∨ y1 = 1 := by rw [hy1]; split <;> omega
      have qy1 := ite01 hy1
      refine j_iconst C dX6_ring_29 ?_
      refine j_perm (pm_6_0 _ _ _ _ _ _) ?_
      refine j_callVi C (As := [.int (iI _), .int (iI _), .int (iI _)]) (c_X6_goes _ _ _ _ _ _ _ _ (by first | assumption | omega) (by first | assumption | omega) (by first | assumption | omega)) 3 nf_X6_goes (jb := 0) rfl rfl wL_X6_146 wI_X6_goes wSe_X6_X6_goes wIn_X6 wC_X6_goes rfl rfl (by decide) dX6_ring_30 (Nat.le_of_ble_eq_true rfl) ⟨Nat.le_of_ble_eq_true rfl, Nat.le_of_ble_eq_true rfl⟩ (fun x30 u30 h30 => ?_)
      refine j_perm (pr_6_0 _ _ _ _ _ _) ?_
      have q30 := goes3 h30
      refine j_if_ne (tgt := 38) C dX6_ring_33 (by decide) (by omega) (by omega) (fun c33 => ?_) (fun c33 => ?_)
      · have hij : (0 ≤ j ∧ j < ((RS S).length : Int)) := by omega
        have hfr : (u3.1 4 = (((RS S).getD j.toNat []).length : Int) ∧ RWS u3.2.1 ((RS S).getD j.toNat [])) ∧ DBB M u3.2.2.2.1 u3.2.2.2.2 := by
          rcases hf3 with q | q
          · exact q.2.2
          · exact absurd hij q.2
        have hDB := DBB_ag hI hA hfr.2
        have hPR := RS_get (S := S) (i := j) hij.1 hij.2
        have hrb := room_bd hI hPR
        have e4 : st u3.1 2 u30 4 = (((RS S).getD j.toNat []).length : Int) := (st_n (by omega)).trans hfr.1.1
        have hl7 := hPR.1.2.1
        refine j_iload_n C dX6_ring_38 rfl ?_
        refine j_aload_n C dX6_ring_39 rfl ?_
        refine j_get C 0 0 12 rfl rfl rfl wU_X6 (by decide) wF_X6_86 rfl dX6_ring_40 ?_
        refine j_icmp_ge (tgt := 55) C dX6_ring_43 (by decide) (by omega) (by omega) (by omega) (by omega) (fun c43 => ?_) (fun c43 => ?_)
        · refine j_iconst C dX6_ring_55 ?_
          refine hR (st u3.1 2 u30, u3.2.1, u3.2.2.1, u3.2.2.2.1, u3.2.2.2.2) dX6_ring_56 ?_ rfl (Nat.le_of_ble_eq_true rfl) (Nat.le_of_ble_eq_true rfl)
          refine Or.inl ⟨⟨by omega, by omega⟩, ?_, RU_KG0 hk3 (RU_of (by omega))⟩
          first
          | (exact (getDout2 (by omega) _).symm)
          | (rw [hfr.1.2 k (by omega) (by omega)]; exact getDin2 (by omega) _ _)
        · refine j_aload_n C dX6_ring_46 rfl ?_
          refine j_get C 0 0 10 rfl rfl rfl wU_X6 (by decide) wF_X6_28 rfl dX6_ring_47 ?_
          refine j_iload_n C dX6_ring_50 rfl ?_
          refine j_iald C 2 0 rfl rfl dX6_ring_51 (by decide) (by omega) (by omega) ?_
          refine j_goto (tgt := 56) C dX6_ring_52 (by decide) ?_
          refine hR (st u3.1 2 u30, u3.2.1, u3.2.2.1, u3.2.2.2.1, u3.2.2.2.2) dX6_ring_56 ?_ rfl (Nat.le_of_ble_eq_true rfl) (Nat.le_of_ble_eq_true rfl)
          refine Or.inl ⟨⟨by omega, by omega⟩, ?_, RU_KG0 hk3 (RU_of (by omega))⟩
          first
          | (exact (getDout2 (by omega) _).symm)
          | (rw [hfr.1.2 k (by omega) (by omega)]; exact getDin2 (by omega) _ _)
      · refine j_iconst C dX6_ring_36 ?_
        refine hR (st u3.1 2 u30, u3.2.1, u3.2.2.1, u3.2.2.2.1, u3.2.2.2.2) dX6_ring_37 ?_ rfl (Nat.le_of_ble_eq_true rfl) (Nat.le_of_ble_eq_true rfl)
        rcases q30 with q | q | q | q
        · exact Or.inr (Or.inl ⟨by omega, RU_KG0 hk3 (RU_of q.2.1)⟩)
        · exact Or.inr (Or.inr ⟨by omega, by omega, RU_KG0 hk3 (RU_of q.2.2.1)⟩)
        · omega
        · omega
    refine j_iload_n C dX6_ring_14 rfl ?_
    refine j_iconst C dX6_ring_15 ?_
    refine j_bipush C dX6_ring_16 (by decide) ?_
    refine j_perm (pm_6 _ _ _ _ _ _) ?_
    refine j_callSi C (As := [.int (iI _), .int (iI _), .int (iI _)]) (c_X6_in _ _ _ _ _ _ (by first | assumption | omega) (by first | assumption | omega) (by first | assumption | omega)) 3 nf_X6_in.2 wL_X6_68 wS_X6_in wIn_X6 wC_X6_in rfl rfl (by decide) dX6_ring_18 (Nat.le_of_ble_eq_true rfl) ⟨Nat.le_of_ble_eq_true rfl, Nat.le_of_ble_eq_true rfl⟩ (fun x18 u18 h18 => ?_)
    refine j_perm (pr_6 _ _ _ _ _ _) ?_
    have q18 := ite01 h18
    refine j_if_ne (tgt := 28) C dX6_ring_21 (by decide) (by omega) (by omega) (fun c21 => ?_) (fun c21 => ?_)
    · refine j_iconst C dX6_ring_28 ?_
      exact L29 _ (by first | (rw [if_pos (by omega)]; done) | (rw [if_neg (by omega)]; done))
    · refine j_iconst C dX6_ring_24 ?_
      refine j_goto (tgt := 29) C dX6_ring_25 (by decide) ?_
      exact L29 _ (by first | (rw [if_pos (by omega)]; done) | (rw [if_neg (by omega)]; done))
  refine j_if_ne (tgt := 13) C dX6_ring_6 (by decide) (by omega) (by omega) (fun c6 => ?_) (fun c6 => ?_)
  · refine j_iconst C dX6_ring_13 ?_
    exact L14 _ (by first | (rw [if_pos (by omega)]; done) | (rw [if_neg (by omega)]; done))
  · refine j_iconst C dX6_ring_9 ?_
    refine j_goto (tgt := 14) C dX6_ring_10 (by decide) ?_
    exact L14 _ (by first | (rw [if_pos (by omega)]; done) | (rw [if_neg (by omega)]; done))
set_option maxHeartbeats 800000 in
set_option maxRecDepth 100000 in
theorem c_X6_room (l : Launch) (D : va_G) (cA : Nat → ClassId) (a : Nat → Nat) (G M R N1 D1 B1 S : Int → Int) (j : Int) (hI : Inv S) (hA : Ag S M) (hj : -2147483648 ≤ j ∧ j < 2147483648) : MI (U := (Int → Int) × (Int → Int) × (Int → Int) × (Int → Int) × (Int → Int)) l yX6_room cX6_room 2 (some .int) (rmN 5 0 0) D cA [.ref (a 0), .int (iI j)] [mO a G, [(a 1, aJ (cA 0) 325 M)], [(a 7, aJ (cA 0) 8 R)], [(a 8, aJ (cA 0) 9 N1)], [(a 5, aJ (cA 0) 49 D1)], [(a 6, aJ (cA 0) 490 B1)]] (fun z u => ((0 ≤ j ∧ j < ((RS S).length : Int)) ∧ z = room S ((RS S).getD j.toNat []) ∧ RU G u.1 0) ∨ (¬ (0 ≤ j ∧ j < ((RS S).length : Int)) ∧ RU G u.1 1)) (fun u => [mO a u.1, [(a 1, aJ (cA 0) 325 M)], [(a 7, aJ (cA 0) 8 u.2.1)], [(a 8, aJ (cA 0) 9 u.2.2.1)], [(a 5, aJ (cA 0) 49 u.2.2.2.1)], [(a 6, aJ (cA 0) 490 u.2.2.2.2)]]) := by
  refine m_startI pn_X6 rfl (List.forall_mem_cons.mpr ⟨rfl, List.forall_mem_cons.mpr ⟨rfl, fun _ h => absurd h List.not_mem_nil⟩⟩) (Nat.le_of_ble_eq_true rfl) ?_
  intro K C e1 e2 e3 hin hR
  subst e1 e2 e3
  have hN := hI.2.1
  have hQ := hI.1
  have hM := Ag_h hA hN.1
  have hM0 := hM.1
  have hM1 := hM.2.1
  show J K 0 0 [mO a G, [(a 1, aJ ((kC K) 0) 325 M)], [(a 7, aJ ((kC K) 0) 8 R)], [(a 8, aJ ((kC K) 0) 9 N1)], [(a 5, aJ ((kC K) 0) 49 D1)], [(a 6, aJ ((kC K) 0) 490 B1)]] [some (.ref (a 0)), some (.int (iI j))] 0 []
  refine j_aload_n C dX6_room_0 rfl ?_
  refine j_aload_n C dX6_room_1 rfl ?_
  refine j_iload_n C dX6_room_2 rfl ?_
  refine j_perm (pm_6_0_1_2_3_4_5 _ _ _ _ _ _) ?_
  refine j_callVi C (As := [.int (iI _)]) (c_X6_findsRing _ _ _ _ _ _ _ _ _ _ _ (by exact Ag_Inv hI hA) (by first | assumption | omega)) 1 nf_X6_findsRing (jb := 0) rfl rfl wL_X6_169 wI_X6_findsRing wSe_X6_X6_findsRing wIn_X6 wC_X6_findsRing rfl rfl (by decide) dX6_room_3 (Nat.le_of_ble_eq_true rfl) ⟨Nat.le_of_ble_eq_true rfl, Nat.le_of_ble_eq_true rfl⟩ (fun x3 u3 h3 => ?_)
  refine j_perm (pr_6_0_1_2_3_4_5 _ _ _ _ _ _) ?_
  have hk3 := h3.1
  have hf3 := h3.2
  rw [RS_ag hI hA] at hf3
  have qf3 : (x3 = 1 ∧ (0 ≤ j ∧ j < ((RS S).length : Int))) ∨ (x3 = 0 ∧ ¬ (0 ≤ j ∧ j < ((RS S).length : Int))) := by rcases hf3 with q | q; exact Or.inl ⟨q.1, q.2.1⟩; exact Or.inr q
  have L14 : ∀ (x1 : Int) (hx1 : x1 = if ¬ (0 ≤ j ∧ j < ((RS S).length : Int)) then 1 else 0), J K 0 0 [mO a u3.1, [(a 1, aJ ((kC K) 0) 325 M)], [(a 7, aJ ((kC K) 0) 8 u3.2.1)], [(a 8, aJ ((kC K) 0) 9 u3.2.2.1)], [(a 5, aJ ((kC K) 0) 49 u3.2.2.2.1)], [(a 6, aJ ((kC K) 0) 490 u3.2.2.2.2)]] [some (.ref (a 0)), some (.int (iI j))] 14 [.int (iI x1), .ref (a 0)] := by
    intro x1 hx1
    have hbx1 : x1 = 0 ∨ x1 = 1 := by rw [hx1]; split <;> omega
    have qx1 := ite01 hx1
    refine j_iconst C dX6_room_14 ?_
    refine j_iconst C dX6_room_15 ?_
    refine j_perm (pm_6_0 _ _ _ _ _ _) ?_
    refine j_callVi C (As := [.int (iI _), .int (iI _), .int (iI _)]) (c_X6_goes _ _ _ _ _ _ _ _ (by first | assumption | omega) (by first | assumption | omega) (by first | assumption | omega)) 3 nf_X6_goes (jb := 0) rfl rfl wL_X6_146 wI_X6_goes wSe_X6_X6_goes wIn_X6 wC_X6_goes rfl rfl (by decide) dX6_room_16 (Nat.le_of_ble_eq_true rfl) ⟨Nat.le_of_ble_eq_true rfl, Nat.le_of_ble_eq_true rfl⟩ (fun x16 u16 h16 => ?_)
    refine j_perm (pr_6_0 _ _ _ _ _ _) ?_
    have q16 := goes3 h16
    refine j_if_eq (tgt := 29) C dX6_room_19 (by decide) (by omega) (by omega) (fun c19 => ?_) (fun c19 => ?_)
    · refine j_iconst C dX6_room_29 ?_
      refine hR (st u3.1 2 u16, u3.2.1, u3.2.2.1, u3.2.2.2.1, u3.2.2.2.2) dX6_room_30 ?_ rfl (Nat.le_of_ble_eq_true rfl) (Nat.le_of_ble_eq_true rfl)
      first
      | exact Or.inl ⟨hij, h23.trans (room_D hDB.1 hPR.1), RU_KG0 hk3 (RU_of (by omega))⟩
      | exact Or.inr ⟨by omega, RU_KG0 hk3 (RU_of (by omega))⟩
    · have hij : (0 ≤ j ∧ j < ((RS S).length : Int)) := by omega
      have hfr : (u3.1 4 = (((RS S).getD j.toNat []).length : Int) ∧ RWS u3.2.1 ((RS S).getD j.toNat [])) ∧ DBB M u3.2.2.2.1 u3.2.2.2.2 := by
        rcases hf3 with q | q
        · exact q.2.2
        · exact absurd hij q.2
      have hDB := DBB_ag hI hA hfr.2
      have hPR := RS_get (S := S) (i := j) hij.1 hij.2
      have hrb := room_bd hI hPR
      refine j_aload_n C dX6_room_22 rfl ?_
      refine j_perm (pm_6_0_2_4 _ _ _ _ _ _) ?_
      refine j_callVi C (As := []) (c_X6_roomOf _ _ _ _ _ _ _ (((RS S).getD j.toNat [])) (by exact (st_n (by omega)).trans hfr.1.1) (by exact hfr.1.2) (by exact ⟨hPR.1.2.1, hPR.1.2.2.1⟩) (by exact hPR.1.1) (by exact fun q p0 p1 => by rw [hDB.1 q p0 p1]; exact dQ_bd hI q)) 0 nf_X6_roomOf (jb := 0) rfl rfl wL_X6_127 wI_X6_roomOf wSe_X6_X6_roomOf wIn_X6 wC_X6_roomOf rfl rfl (by decide) dX6_room_23 (Nat.le_of_ble_eq_true rfl) ⟨Nat.le_of_ble_eq_true rfl, Nat.le_of_ble_eq_true rfl⟩ (fun x23 u23 h23 => ?_)
      refine j_perm (pr_6_0_2_4 _ _ _ _ _ _) ?_
      refine j_goto (tgt := 30) C dX6_room_26 (by decide) ?_
      refine hR (st u3.1 2 u16, u3.2.1, u3.2.2.1, u3.2.2.2.1, u3.2.2.2.2) dX6_room_30 ?_ rfl (Nat.le_of_ble_eq_true rfl) (Nat.le_of_ble_eq_true rfl)
      first
      | exact Or.inl ⟨hij, h23.trans (room_D hDB.1 hPR.1), RU_KG0 hk3 (RU_of (by omega))⟩
      | exact Or.inr ⟨by omega, RU_KG0 hk3 (RU_of (by omega))⟩
  refine j_if_ne (tgt := 13) C dX6_room_6 (by decide) (by omega) (by omega) (fun c6 => ?_) (fun c6 => ?_)
  · refine j_iconst C dX6_room_13 ?_
    exact L14 _ (by first | (rw [if_pos (by omega)]; done) | (rw [if_neg (by omega)]; done))
  · refine j_iconst C dX6_room_9 ?_
    refine j_goto (tgt := 14) C dX6_room_10 (by decide) ?_
    exact L14 _ (by first | (rw [if_pos (by omega)]; done) | (rw [if_neg (by omega)]; done))
set_option maxHeartbeats 800000 in
set_option maxRecDepth 100000 in
theorem c_X6_saving (l : Launch) (D : va_G) (cA : Nat → ClassId) (a : Nat → Nat) (G M R N1 D1 B1 S : Int → Int) (j : Int) (hI : Inv S) (hA : Ag S M) (hj : -2147483648 ≤ j ∧ j < 2147483648) : MI (U := (Int → Int) × (Int → Int) × (Int → Int) × (Int → Int) × (Int → Int)) l yX6_saving cX6_saving 2 (some .int) (rmN 5 0 0) D cA [.ref (a 0), .int (iI j)] [mO a G, [(a 1, aJ (cA 0) 325 M)], [(a 7, aJ (cA 0) 8 R)], [(a 8, aJ (cA 0) 9 N1)], [(a 5, aJ (cA 0) 49 D1)], [(a 6, aJ (cA 0) 490 B1)]] (fun z u => ((0 ≤ j ∧ j < ((RS S).length : Int)) ∧ z = savP S ((RS S).getD j.toNat []) (room S ((RS S).getD j.toNat [])) ∧ RU G u.1 0) ∨ (¬ (0 ≤ j ∧ j < ((RS S).length : Int)) ∧ RU G u.1 1)) (fun u => [mO a u.1, [(a 1, aJ (cA 0) 325 M)], [(a 7, aJ (cA 0) 8 u.2.1)], [(a 8, aJ (cA 0) 9 u.2.2.1)], [(a 5, aJ (cA 0) 49 u.2.2.2.1)], [(a 6, aJ (cA 0) 490 u.2.2.2.2)]]) := by
  refine m_startI pn_X6 rfl (List.forall_mem_cons.mpr ⟨rfl, List.forall_mem_cons.mpr ⟨rfl, fun _ h => absurd h List.not_mem_nil⟩⟩) (Nat.le_of_ble_eq_true rfl) ?_
  intro K C e1 e2 e3 hin hR
  subst e1 e2 e3
  have hN := hI.2.1
  have hQ := hI.1
  have hM := Ag_h hA hN.1
  have hM0 := hM.1
  have hM1 := hM.2.1
  show J K 0 0 [mO a G, [(a 1, aJ ((kC K) 0) 325 M)], [(a 7, aJ ((kC K) 0) 8 R)], [(a 8, aJ ((kC K) 0) 9 N1)], [(a 5, aJ ((kC K) 0) 49 D1)], [(a 6, aJ ((kC K) 0) 490 B1)]] [some (.ref (a 0)), some (.int (iI j))] 0 []
  refine j_aload_n C dX6_saving_0 rfl ?_
  refine j_aload_n C dX6_saving_1 rfl ?_
  refine j_iload_n C dX6_saving_2 rfl ?_
  refine j_perm (pm_6_0_1_2_3_4_5 _ _ _ _ _ _) ?_
  refine j_callVi C (As := [.int (iI _)]) (c_X6_findsRing _ _ _ _ _ _ _ _ _ _ _ (by exact Ag_Inv hI hA) (by first | assumption | omega)) 1 nf_X6_findsRing (jb := 0) rfl rfl wL_X6_169 wI_X6_findsRing wSe_X6_X6_findsRing wIn_X6 wC_X6_findsRing rfl rfl (by decide) dX6_saving_3 (Nat.le_of_ble_eq_true rfl) ⟨Nat.le_of_ble_eq_true rfl, Nat.le_of_ble_eq_true rfl⟩ (fun x3 u3 h3 => ?_)
  refine j_perm (pr_6_0_1_2_3_4_5 _ _ _ _ _ _) ?_
  have hk3 := h3.1
  have hf3 := h3.2
  rw [RS_ag hI hA] at hf3
  have qf3 : (x3 = 1 ∧ (0 ≤ j ∧ j < ((RS S).length : Int))) ∨ (x3 = 0 ∧ ¬ (0 ≤ j ∧ j < ((RS S).length : Int))) := by rcases hf3 with q | q; exact Or.inl ⟨q.1, q.2.1⟩; exact Or.inr q
  have L14 : ∀ (x1 : Int) (hx1 : x1 = if ¬ (0 ≤ j ∧ j < ((RS S).length : Int)) then 1 else 0), J K 0 0 [mO a u3.1, [(a 1, aJ ((kC K) 0) 325 M)], [(a 7, aJ ((kC K) 0) 8 u3.2.1)], [(a 8, aJ ((kC K) 0) 9 u3.2.2.1)], [(a 5, aJ ((kC K) 0) 49 u3.2.2.2.1)], [(a 6, aJ ((kC K) 0) 490 u3.2.2.2.2)]] [some (.ref (a 0)), some (.int (iI j))] 14 [.int (iI x1), .ref (a 0)] := by
    intro x1 hx1
    have hbx1 : x1 = 0 ∨ x1 = 1 := by rw [hx1]; split <;> omega
    have qx1 := ite01 hx1
    refine j_iconst C dX6_saving_14 ?_
    refine j_iconst C dX6_saving_15 ?_
    refine j_perm (pm_6_0 _ _ _ _ _ _) ?_
    refine j_callVi C (As := [.int (iI _), .int (iI _), .int (iI _)]) (c_X6_goes _ _ _ _ _ _ _ _ (by first | assumption | omega) (by first | assumption | omega) (by first | assumption | omega)) 3 nf_X6_goes (jb := 0) rfl rfl wL_X6_146 wI_X6_goes wSe_X6_X6_goes wIn_X6 wC_X6_goes rfl rfl (by decide) dX6_saving_16 (Nat.le_of_ble_eq_true rfl) ⟨Nat.le_of_ble_eq_true rfl, Nat.le_of_ble_eq_true rfl⟩ (fun x16 u16 h16 => ?_)
    refine j_perm (pr_6_0 _ _ _ _ _ _) ?_
    have q16 := goes3 h16
    refine j_if_eq (tgt := 33) C dX6_saving_19 (by decide) (by omega) (by omega) (fun c19 => ?_) (fun c19 => ?_)
    · refine j_iconst C dX6_saving_33 ?_
      refine hR (st u3.1 2 u16, u3.2.1, u3.2.2.1, u3.2.2.2.1, u3.2.2.2.2) dX6_saving_34 ?_ rfl (Nat.le_of_ble_eq_true rfl) (Nat.le_of_ble_eq_true rfl)
      first
      | exact Or.inl ⟨hij, h27, RU_KG0 hk3 (RU_of (by omega))⟩
      | exact Or.inr ⟨by omega, RU_KG0 hk3 (RU_of (by omega))⟩
    · have hij : (0 ≤ j ∧ j < ((RS S).length : Int)) := by omega
      have hfr : (u3.1 4 = (((RS S).getD j.toNat []).length : Int) ∧ RWS u3.2.1 ((RS S).getD j.toNat [])) ∧ DBB M u3.2.2.2.1 u3.2.2.2.2 := by
        rcases hf3 with q | q
        · exact q.2.2
        · exact absurd hij q.2
      have hDB := DBB_ag hI hA hfr.2
      have hPR := RS_get (S := S) (i := j) hij.1 hij.2
      have hrb := room_bd hI hPR
      refine j_aload_n C dX6_saving_22 rfl ?_
      refine j_aload_n C dX6_saving_23 rfl ?_
      refine j_perm (pm_6_0_2_4 _ _ _ _ _ _) ?_
      refine j_callVi C (As := []) (c_X6_roomOf _ _ _ _ _ _ _ (((RS S).getD j.toNat [])) (by exact (st_n (by omega)).trans hfr.1.1) (by exact hfr.1.2) (by exact ⟨hPR.1.2.1, hPR.1.2.2.1⟩) (by exact hPR.1.1) (by exact fun q p0 p1 => by rw [hDB.1 q p0 p1]; exact dQ_bd hI q)) 0 nf_X6_roomOf (jb := 0) rfl rfl wL_X6_127 wI_X6_roomOf wSe_X6_X6_roomOf wIn_X6 wC_X6_roomOf rfl rfl (by decide) dX6_saving_24 (Nat.le_of_ble_eq_true rfl) ⟨Nat.le_of_ble_eq_true rfl, Nat.le_of_ble_eq_true rfl⟩ (fun x24 u24 h24 => ?_)
      refine j_perm (pr_6_0_2_4 _ _ _ _ _ _) ?_
      have hx24 : x24 = room S ((RS S).getD j.toNat []) := h24.trans (room_D hDB.1 hPR.1)
      refine j_perm (pm_6_0_2_5 _ _ _ _ _ _) ?_
      refine j_callVi C (As := [.int (iI _)]) (c_X6_savingBy _ _ _ _ _ _ _ (bQ S) (((RS S).getD j.toNat [])) _ (by exact (st_n (by omega)).trans hfr.1.1) (by exact hfr.1.2) (by exact ⟨hPR.1.2.1, hPR.1.2.2.1⟩) (by exact hDB.2) (by exact bQ_bd hI) (by omega)) 1 nf_X6_savingBy (jb := 0) rfl rfl wL_X6_114 wI_X6_savingBy wSe_X6_X6_savingBy wIn_X6 wC_X6_savingBy rfl rfl (by decide) dX6_saving_27 (Nat.le_of_ble_eq_true rfl) ⟨Nat.le_of_ble_eq_true rfl, Nat.le_of_ble_eq_true rfl⟩ (fun x27 u27 h27 => ?_)
      refine j_perm (pr_6_0_2_5 _ _ _ _ _ _) ?_
      rw [hx24] at h27
      refine j_goto (tgt := 34) C dX6_saving_30 (by decide) ?_
      refine hR (st u3.1 2 u16, u3.2.1, u3.2.2.1, u3.2.2.2.1, u3.2.2.2.2) dX6_saving_34 ?_ rfl (Nat.le_of_ble_eq_true rfl) (Nat.le_of_ble_eq_true rfl)
      first
      | exact Or.inl ⟨hij, h27, RU_KG0 hk3 (RU_of (by omega))⟩
      | exact Or.inr ⟨by omega, RU_KG0 hk3 (RU_of (by omega))⟩
  refine j_if_ne (tgt := 13) C dX6_saving_6 (by decide) (by omega) (by omega) (fun c6 => ?_) (fun c6 => ?_)
  · refine j_iconst C dX6_saving_13 ?_
    exact L14 _ (by first | (rw [if_pos (by omega)]; done) | (rw [if_neg (by omega)]; done))
  · refine j_iconst C dX6_saving_9 ?_
    refine j_goto (tgt := 14) C dX6_saving_10 (by decide) ?_
    exact L14 _ (by first | (rw [if_pos (by omega)]; done) | (rw [if_neg (by omega)]; done))
set_option maxHeartbeats 800000 in
set_option maxRecDepth 100000 in
theorem c_X6_ringsWithout (l : Launch) (D : va_G) (cA : Nat → ClassId) (a : Nat → Nat) (G M R N1 D1 B1 S : Int → Int) (i : Int) (hI : Inv S) (hA : Ag S M) (hi : -2147483648 ≤ i ∧ i < 2147483648) : MI (U := (Int → Int) × (Int → Int) × (Int → Int) × (Int → Int) × (Int → Int)) l yX6_ringsWithout cX6_ringsWithout 2 (some .int) (rmN 5 0 0) D cA [.ref (a 0), .int (iI i)] [mO a G, [(a 1, aJ (cA 0) 325 M)], [(a 7, aJ (cA 0) 8 R)], [(a 8, aJ (cA 0) 9 N1)], [(a 5, aJ (cA 0) 49 D1)], [(a 6, aJ (cA 0) 490 B1)]] (fun z u => ((0 ≤ i ∧ i < S 1) ∧ z = rwO S i ∧ RU G u.1 0) ∨ (¬ (0 ≤ i ∧ i < S 1) ∧ RU G u.1 1)) (fun u => [mO a u.1, [(a 1, aJ (cA 0) 325 M)], [(a 7, aJ (cA 0) 8 u.2.1)], [(a 8, aJ (cA 0) 9 u.2.2.1)], [(a 5, aJ (cA 0) 49 u.2.2.2.1)], [(a 6, aJ (cA 0) 490 u.2.2.2.2)]]) := by
  refine m_startI pn_X6 rfl (List.forall_mem_cons.mpr ⟨rfl, List.forall_mem_cons.mpr ⟨rfl, fun _ h => absurd h List.not_mem_nil⟩⟩) (Nat.le_of_ble_eq_true rfl) ?_
  intro K C e1 e2 e3 hin hR
  subst e1 e2 e3
  have hN := hI.2.1
  have hQ := hI.1
  have hM := Ag_h hA hN.1
  have hM0 := hM.1
  have hM1 := hM.2.1
  show J K 0 0 [mO a G, [(a 1, aJ ((kC K) 0) 325 M)], [(a 7, aJ ((kC K) 0) 8 R)], [(a 8, aJ ((kC K) 0) 9 N1)], [(a 5, aJ ((kC K) 0) 49 D1)], [(a 6, aJ ((kC K) 0) 490 B1)]] [some (.ref (a 0)), some (.int (iI i))] 0 []
  refine j_aload_n C dX6_ringsWithout_0 rfl ?_
  have L14 : ∀ (x1 : Int) (hx1 : x1 = if ¬ (0 ≤ i ∧ i < S 1) then 1 else 0), J K 0 0 [mO a G, [(a 1, aJ ((kC K) 0) 325 M)], [(a 7, aJ ((kC K) 0) 8 R)], [(a 8, aJ ((kC K) 0) 9 N1)], [(a 5, aJ ((kC K) 0) 49 D1)], [(a 6, aJ ((kC K) 0) 490 B1)]] [some (.ref (a 0)), some (.int (iI i))] 14 [.int (iI x1), .ref (a 0)] := by
    intro x1 hx1
    have hbx1 : x1 = 0 ∨ x1 = 1 := by rw [hx1]; split <;> omega
    have qx1 := ite01 hx1
    refine j_iconst C dX6_ringsWithout_14 ?_
    refine j_iconst C dX6_ringsWithout_15 ?_
    have L35 : ∀ (z : Int) (G5 R5 N5 D5 B5 : Int → Int) (hz : ((0 ≤ i ∧ i < S 1) ∧ z = rwO S i ∧ RU G G5 0) ∨ (¬ (0 ≤ i ∧ i < S 1) ∧ RU G G5 1)), J K 0 0 [mO a G5, [(a 1, aJ ((kC K) 0) 325 M)], [(a 7, aJ ((kC K) 0) 8 R5)], [(a 8, aJ ((kC K) 0) 9 N5)], [(a 5, aJ ((kC K) 0) 49 D5)], [(a 6, aJ ((kC K) 0) 490 B5)]] [some (.ref (a 0)), some (.int (iI i))] 35 [.int (iI z)] := by
      intro z G5 R5 N5 D5 B5 hz
      exact hR (G5, R5, N5, D5, B5) dX6_ringsWithout_35 (by exact hz) rfl (Nat.le_of_ble_eq_true rfl) (Nat.le_of_ble_eq_true rfl)
    refine j_perm (pm_6_0 _ _ _ _ _ _) ?_
    refine j_callVi C (As := [.int (iI _), .int (iI _), .int (iI _)]) (c_X6_goes _ _ _ _ _ _ _ _ (by first | assumption | omega) (by first | assumption | omega) (by first | assumption | omega)) 3 nf_X6_goes (jb := 0) rfl rfl wL_X6_146 wI_X6_goes wSe_X6_X6_goes wIn_X6 wC_X6_goes rfl rfl (by decide) dX6_ringsWithout_16 (Nat.le_of_ble_eq_true rfl) ⟨Nat.le_of_ble_eq_true rfl, Nat.le_of_ble_eq_true rfl⟩ (fun x16 u16 h16 => ?_)
    refine j_perm (pr_6_0 _ _ _ _ _ _) ?_
    have q16 := goes3 h16
    refine j_if_eq (tgt := 34) C dX6_ringsWithout_19 (by decide) (by omega) (by omega) (fun c19 => ?_) (fun c19 => ?_)
    · refine j_iconst C dX6_ringsWithout_34 ?_
      exact L35 _ _ _ _ _ _ (by first | exact Or.inl ⟨by omega, by rw [h28, rwO_ag hI hA], RU_KG (RU_of (by omega)) (KG_34 _ _ _)⟩ | exact Or.inr ⟨by omega, RU_of (by omega)⟩)
    · refine j_aload_n C dX6_ringsWithout_22 rfl ?_
      refine j_aload_n C dX6_ringsWithout_23 rfl ?_
      refine j_get C 0 0 0 rfl rfl rfl wU_X6 (by decide) wF_X6_7 rfl dX6_ringsWithout_24 ?_
      refine j_iload_n C dX6_ringsWithout_27 rfl ?_
      refine j_perm (pm_6_0_1_2_3_4_5 _ _ _ _ _ _) ?_
      refine j_callVi C (As := [.ref _, .int (iI _)]) (c_X6_countRings _ _ _ _ _ _ _ _ _ _ _ _ (by exact Ag_Inv hI hA) (by omega)) 2 nf_X6_countRings (jb := 0) rfl rfl wL_X6_166 wI_X6_countRings wSe_X6_X6_countRings wIn_X6 wC_X6_countRings rfl rfl (by decide) dX6_ringsWithout_28 (Nat.le_of_ble_eq_true rfl) ⟨Nat.le_of_ble_eq_true rfl, Nat.le_of_ble_eq_true rfl⟩ (fun x28 u28 h28 => ?_)
      refine j_perm (pr_6_0_1_2_3_4_5 _ _ _ _ _ _) ?_
      refine j_goto (tgt := 35) C dX6_ringsWithout_31 (by decide) ?_
      exact L35 _ _ _ _ _ _ (by first | exact Or.inl ⟨by omega, by rw [h28, rwO_ag hI hA], RU_KG (RU_of (by omega)) (KG_34 _ _ _)⟩ | exact Or.inr ⟨by omega, RU_of (by omega)⟩)
  refine j_aload_n C dX6_ringsWithout_1 rfl ?_
  refine j_iload_n C dX6_ringsWithout_2 rfl ?_
  refine j_perm (pm_6_0_1 _ _ _ _ _ _) ?_
  refine j_callVi C (As := [.int (iI _)]) (c_X6_isPromise _ _ _ _ _ _ _ (by first | assumption | omega) (by first | assumption | omega)) 1 nf_X6_isPromise (jb := 0) rfl rfl wL_X6_160 wI_X6_isPromise wSe_X6_X6_isPromise wIn_X6 wC_X6_isPromise rfl rfl (by decide) dX6_ringsWithout_3 (Nat.le_of_ble_eq_true rfl) ⟨Nat.le_of_ble_eq_true rfl, Nat.le_of_ble_eq_true rfl⟩ (fun x3 u3 h3 => ?_)
  refine j_perm (pr_6_0_1 _ _ _ _ _ _) ?_
  have q3 := ite01 h3
  refine j_if_ne (tgt := 13) C dX6_ringsWithout_6 (by decide) (by omega) (by omega) (fun c6 => ?_) (fun c6 => ?_)
  · refine j_iconst C dX6_ringsWithout_13 ?_
    exact L14 _ (by first | (rw [if_pos (by omega)]; done) | (rw [if_neg (by omega)]; done))
  · refine j_iconst C dX6_ringsWithout_9 ?_
    refine j_goto (tgt := 14) C dX6_ringsWithout_10 (by decide) ?_
    exact L14 _ (by first | (rw [if_pos (by omega)]; done) | (rw [if_neg (by omega)]; done))
