/-! the reference: values, what if, text, undo -/
theorem cp_Ag {S M T : Int → Int} (hI : Inv S) (h : Ag S M) : Ag S (cpA M T 0 0 325) := by
  have hN := hI.2.1
  refine ⟨fun j a b => ?_, fun j a b => ?_⟩
  · unfold cpA
    rw [if_pos (by omega), show 0 + (j - 0) = j by omega]
    exact h.1 j a b
  · unfold cpA
    rw [if_pos (by omega), show 0 + (j - 0) = j by omega]
    exact h.2 j a b
theorem debS_self {S : Int → Int} (hI : Inv S) {p : Int} (h0 : 0 ≤ p) (h1 : p < 7) : debS S p p = 0 := by
  rw [debS_dQ hI ⟨h0, h1⟩ ⟨h0, h1⟩]
  exact dQ_diag hI h0 h1
theorem pm_3_2_1 (B0 B1 B2 : va_W) : [B0, B1, B2].Perm ([B2, B1] ++ [B0]) := List.Perm.trans (List.perm_middle (l₁ := [B0, B1]) (a := B2) (l₂ := [])) (List.Perm.cons _ (List.perm_middle (l₁ := [B0]) (a := B1) (l₂ := [])))
theorem pr_3_2_1 (B0 B1 B2 : va_W) : ([B2, B1] ++ [B0]).Perm [B0, B1, B2] := (pm_3_2_1 B0 B1 B2).symm
theorem pm_6_1 (B0 B1 B2 B3 B4 B5 : va_W) : [B0, B1, B2, B3, B4, B5].Perm ([B1] ++ [B0, B2, B3, B4, B5]) := List.perm_middle (l₁ := [B0]) (a := B1) (l₂ := [B2, B3, B4, B5])
theorem pr_6_1 (B0 B1 B2 B3 B4 B5 : va_W) : ([B1] ++ [B0, B2, B3, B4, B5]).Perm [B0, B1, B2, B3, B4, B5] := (pm_6_1 B0 B1 B2 B3 B4 B5).symm
theorem pm_8_0_2_3_4_5_6_7 (B0 B1 B2 B3 B4 B5 B6 B7 : va_W) : [B0, B1, B2, B3, B4, B5, B6, B7].Perm ([B0, B2, B3, B4, B5, B6, B7] ++ [B1]) := List.Perm.trans (List.Perm.refl _) (List.Perm.trans (List.Perm.cons _ (List.perm_middle (l₁ := [B1]) (a := B2) (l₂ := [B3, B4, B5, B6, B7]))) (List.Perm.trans (List.Perm.cons _ (List.Perm.cons _ (List.perm_middle (l₁ := [B1]) (a := B3) (l₂ := [B4, B5, B6, B7])))) (List.Perm.trans (List.Perm.cons _ (List.Perm.cons _ (List.Perm.cons _ (List.perm_middle (l₁ := [B1]) (a := B4) (l₂ := [B5, B6, B7]))))) (List.Perm.trans (List.Perm.cons _ (List.Perm.cons _ (List.Perm.cons _ (List.Perm.cons _ (List.perm_middle (l₁ := [B1]) (a := B5) (l₂ := [B6, B7])))))) (List.Perm.trans (List.Perm.cons _ (List.Perm.cons _ (List.Perm.cons _ (List.Perm.cons _ (List.Perm.cons _ (List.perm_middle (l₁ := [B1]) (a := B6) (l₂ := [B7]))))))) (List.Perm.cons _ (List.Perm.cons _ (List.Perm.cons _ (List.Perm.cons _ (List.Perm.cons _ (List.Perm.cons _ (List.perm_middle (l₁ := [B1]) (a := B7) (l₂ := [])))))))))))))
theorem pr_8_0_2_3_4_5_6_7 (B0 B1 B2 B3 B4 B5 B6 B7 : va_W) : ([B0, B2, B3, B4, B5, B6, B7] ++ [B1]).Perm [B0, B1, B2, B3, B4, B5, B6, B7] := (pm_8_0_2_3_4_5_6_7 B0 B1 B2 B3 B4 B5 B6 B7).symm
theorem pm_8_1_2 (B0 B1 B2 B3 B4 B5 B6 B7 : va_W) : [B0, B1, B2, B3, B4, B5, B6, B7].Perm ([B1, B2] ++ [B0, B3, B4, B5, B6, B7]) := List.Perm.trans (List.perm_middle (l₁ := [B0]) (a := B1) (l₂ := [B2, B3, B4, B5, B6, B7])) (List.Perm.cons _ (List.perm_middle (l₁ := [B0]) (a := B2) (l₂ := [B3, B4, B5, B6, B7])))
theorem pr_8_1_2 (B0 B1 B2 B3 B4 B5 B6 B7 : va_W) : ([B1, B2] ++ [B0, B3, B4, B5, B6, B7]).Perm [B0, B1, B2, B3, B4, B5, B6, B7] := (pm_8_1_2 B0 B1 B2 B3 B4 B5 B6 B7).symm
theorem pm_8_2 (B0 B1 B2 B3 B4 B5 B6 B7 : va_W) : [B0, B1, B2, B3, B4, B5, B6, B7].Perm ([B2] ++ [B0, B1, B3, B4, B5, B6, B7]) := List.perm_middle (l₁ := [B0, B1]) (a := B2) (l₂ := [B3, B4, B5, B6, B7])
theorem pr_8_2 (B0 B1 B2 B3 B4 B5 B6 B7 : va_W) : ([B2] ++ [B0, B1, B3, B4, B5, B6, B7]).Perm [B0, B1, B2, B3, B4, B5, B6, B7] := (pm_8_2 B0 B1 B2 B3 B4 B5 B6 B7).symm
theorem pm_11_0_1 (B0 B1 B2 B3 B4 B5 B6 B7 B8 B9 B10 : va_W) : [B0, B1, B2, B3, B4, B5, B6, B7, B8, B9, B10].Perm ([B0, B1] ++ [B2, B3, B4, B5, B6, B7, B8, B9, B10]) := List.Perm.trans (List.Perm.refl _) (List.Perm.cons _ (List.Perm.refl _))
theorem pr_11_0_1 (B0 B1 B2 B3 B4 B5 B6 B7 B8 B9 B10 : va_W) : ([B0, B1] ++ [B2, B3, B4, B5, B6, B7, B8, B9, B10]).Perm [B0, B1, B2, B3, B4, B5, B6, B7, B8, B9, B10] := (pm_11_0_1 B0 B1 B2 B3 B4 B5 B6 B7 B8 B9 B10).symm
theorem pm_11_0_1_2_3_4_5 (B0 B1 B2 B3 B4 B5 B6 B7 B8 B9 B10 : va_W) : [B0, B1, B2, B3, B4, B5, B6, B7, B8, B9, B10].Perm ([B0, B1, B2, B3, B4, B5] ++ [B6, B7, B8, B9, B10]) := List.Perm.trans (List.Perm.refl _) (List.Perm.trans (List.Perm.cons _ (List.Perm.refl _)) (List.Perm.trans (List.Perm.cons _ (List.Perm.cons _ (List.Perm.refl _))) (List.Perm.trans (List.Perm.cons _ (List.Perm.cons _ (List.Perm.cons _ (List.Perm.refl _)))) (List.Perm.trans (List.Perm.cons _ (List.Perm.cons _ (List.Perm.cons _ (List.Perm.cons _ (List.Perm.refl _))))) (List.Perm.cons _ (List.Perm.cons _ (List.Perm.cons _ (List.Perm.cons _ (List.Perm.cons _ (List.Perm.refl _))))))))))
theorem pr_11_0_1_2_3_4_5 (B0 B1 B2 B3 B4 B5 B6 B7 B8 B9 B10 : va_W) : ([B0, B1, B2, B3, B4, B5] ++ [B6, B7, B8, B9, B10]).Perm [B0, B1, B2, B3, B4, B5, B6, B7, B8, B9, B10] := (pm_11_0_1_2_3_4_5 B0 B1 B2 B3 B4 B5 B6 B7 B8 B9 B10).symm
theorem pm_11_0_1_2_3_4_5_6 (B0 B1 B2 B3 B4 B5 B6 B7 B8 B9 B10 : va_W) : [B0, B1, B2, B3, B4, B5, B6, B7, B8, B9, B10].Perm ([B0, B1, B2, B3, B4, B5, B6] ++ [B7, B8, B9, B10]) := List.Perm.trans (List.Perm.refl _) (List.Perm.trans (List.Perm.cons _ (List.Perm.refl _)) (List.Perm.trans (List.Perm.cons _ (List.Perm.cons _ (List.Perm.refl _))) (List.Perm.trans (List.Perm.cons _ (List.Perm.cons _ (List.Perm.cons _ (List.Perm.refl _)))) (List.Perm.trans (List.Perm.cons _ (List.Perm.cons _ (List.Perm.cons _ (List.Perm.cons _ (List.Perm.refl _))))) (List.Perm.trans (List.Perm.cons _ (List.Perm.cons _ (List.Perm.cons _ (List.Perm.cons _ (List.Perm.cons _ (List.Perm.refl _)))))) (List.Perm.cons _ (List.Perm.cons _ (List.Perm.cons _ (List.Perm.cons _ (List.Perm.cons _ (List.Perm.cons _ (List.Perm.refl _))))))))))))
theorem pr_11_0_1_2_3_4_5_6 (B0 B1 B2 B3 B4 B5 B6 B7 B8 B9 B10 : va_W) : ([B0, B1, B2, B3, B4, B5, B6] ++ [B7, B8, B9, B10]).Perm [B0, B1, B2, B3, B4, B5, B6, B7, B8, B9, B10] := (pm_11_0_1_2_3_4_5_6 B0 B1 B2 B3 B4 B5 B6 B7 B8 B9 B10).symm
theorem pm_11_0_1_3_4_5 (B0 B1 B2 B3 B4 B5 B6 B7 B8 B9 B10 : va_W) : [B0, B1, B2, B3, B4, B5, B6, B7, B8, B9, B10].Perm ([B0, B1, B3, B4, B5] ++ [B2, B6, B7, B8, B9, B10]) := List.Perm.trans (List.Perm.refl _) (List.Perm.trans (List.Perm.cons _ (List.Perm.refl _)) (List.Perm.trans (List.Perm.cons _ (List.Perm.cons _ (List.perm_middle (l₁ := [B2]) (a := B3) (l₂ := [B4, B5, B6, B7, B8, B9, B10])))) (List.Perm.trans (List.Perm.cons _ (List.Perm.cons _ (List.Perm.cons _ (List.perm_middle (l₁ := [B2]) (a := B4) (l₂ := [B5, B6, B7, B8, B9, B10]))))) (List.Perm.cons _ (List.Perm.cons _ (List.Perm.cons _ (List.Perm.cons _ (List.perm_middle (l₁ := [B2]) (a := B5) (l₂ := [B6, B7, B8, B9, B10])))))))))
theorem pr_11_0_1_3_4_5 (B0 B1 B2 B3 B4 B5 B6 B7 B8 B9 B10 : va_W) : ([B0, B1, B3, B4, B5] ++ [B2, B6, B7, B8, B9, B10]).Perm [B0, B1, B2, B3, B4, B5, B6, B7, B8, B9, B10] := (pm_11_0_1_3_4_5 B0 B1 B2 B3 B4 B5 B6 B7 B8 B9 B10).symm
theorem pm_11_0_1_7_8_9_10 (B0 B1 B2 B3 B4 B5 B6 B7 B8 B9 B10 : va_W) : [B0, B1, B2, B3, B4, B5, B6, B7, B8, B9, B10].Perm ([B0, B1, B7, B8, B9, B10] ++ [B2, B3, B4, B5, B6]) := List.Perm.trans (List.Perm.refl _) (List.Perm.trans (List.Perm.cons _ (List.Perm.refl _)) (List.Perm.trans (List.Perm.cons _ (List.Perm.cons _ (List.perm_middle (l₁ := [B2, B3, B4, B5, B6]) (a := B7) (l₂ := [B8, B9, B10])))) (List.Perm.trans (List.Perm.cons _ (List.Perm.cons _ (List.Perm.cons _ (List.perm_middle (l₁ := [B2, B3, B4, B5, B6]) (a := B8) (l₂ := [B9, B10]))))) (List.Perm.trans (List.Perm.cons _ (List.Perm.cons _ (List.Perm.cons _ (List.Perm.cons _ (List.perm_middle (l₁ := [B2, B3, B4, B5, B6]) (a := B9) (l₂ := [B10])))))) (List.Perm.cons _ (List.Perm.cons _ (List.Perm.cons _ (List.Perm.cons _ (List.Perm.cons _ (List.perm_middle (l₁ := [B2, B3, B4, B5, B6]) (a := B10) (l₂ := [])))))))))))
theorem pr_11_0_1_7_8_9_10 (B0 B1 B2 B3 B4 B5 B6 B7 B8 B9 B10 : va_W) : ([B0, B1, B7, B8, B9, B10] ++ [B2, B3, B4, B5, B6]).Perm [B0, B1, B2, B3, B4, B5, B6, B7, B8, B9, B10] := (pm_11_0_1_7_8_9_10 B0 B1 B2 B3 B4 B5 B6 B7 B8 B9 B10).symm
set_option maxHeartbeats 800000 in
set_option maxRecDepth 100000 in
theorem c_X6_costOf (l : Launch) (D : va_G) (cA : Nat → ClassId) (q1 : Nat) (W : Int → Int) (hW : 0 ≤ W 1 ∧ W 1 ≤ 40) : MI (U := Unit) l yX6_costOf cX6_costOf 3 (some .int) (rmN 2 0 0) D cA [.ref (q1)] [[(q1, aJ (cA 0) 325 W)]] (fun x _ => x = cosS W) (fun _ => [[(q1, aJ (cA 0) 325 W)]]) := by
  refine m_startI pn_X6 rfl (List.forall_mem_cons.mpr ⟨rfl, fun _ h => absurd h List.not_mem_nil⟩) (Nat.le_of_ble_eq_true rfl) ?_
  intro K C e1 e2 e3 hin hR
  subst e1 e2 e3
  show J K 0 0 [[(q1, aJ ((kC K) 0) 325 W)]] [some (.ref (q1)), none, none] 0 []
  refine j_iconst C dX6_costOf_0 ?_
  refine j_istn_1 C dX6_costOf_1 rfl ?_
  refine j_iconst C dX6_costOf_2 ?_
  refine j_istn_2 C dX6_costOf_3 rfl ?_
  have L4 : ∀ (fuel : Nat) (y k : Int) (hk : 0 ≤ k ∧ k ≤ W 1) (hy : y = sumZ (fun k => am W k * ra W k) k) (hf4 : (W 1 - k).toNat < fuel), J K 0 0 [[(q1, aJ ((kC K) 0) 325 W)]] [some (.ref (q1)), some (.int (iI y)), some (.int (iI k))] 4 [] := by
    intro fuel
    induction fuel with
    | zero => intro y k hk hy hf4; exact absurd hf4 (Nat.not_lt_zero _)
    | succ fuel ih4 =>
      intro y k hk hy hf4
      refine j_iload_n C dX6_costOf_4 rfl ?_
      refine j_aload_n C dX6_costOf_5 rfl ?_
      refine j_iconst C dX6_costOf_6 ?_
      refine j_iald C 0 0 rfl rfl dX6_costOf_7 (by decide) (by omega) (by omega) ?_
      refine j_icmp_ge (tgt := 35) C dX6_costOf_8 (by decide) (by omega) (by omega) (by omega) (by omega) (fun c8 => ?_) (fun c8 => ?_)
      · refine j_iload_n C dX6_costOf_35 rfl ?_
        refine hR () dX6_costOf_36 ?_ rfl (Nat.le_of_ble_eq_true rfl) (Nat.le_of_ble_eq_true rfl)
        rw [hy, show k = W 1 by omega]
        rfl
      · refine j_iload_n C dX6_costOf_11 rfl ?_
        refine j_aload_n C dX6_costOf_12 rfl ?_
        refine j_iload_n C dX6_costOf_13 rfl ?_
        refine j_iconst C dX6_costOf_14 ?_
        refine j_perm (pm_1 _) ?_
        refine j_callSi C (As := [.int (iI _), .int (iI _)]) (c_X6_p _ _ _ _ _ ) 2 nf_X6_p.2 wL_X6_79 wS_X6_p wIn_X6 wC_X6_p rfl rfl (by decide) dX6_costOf_15 (Nat.le_of_ble_eq_true rfl) ⟨Nat.le_of_ble_eq_true rfl, Nat.le_of_ble_eq_true rfl⟩ (fun x15 u15 h15 => ?_)
        refine j_perm (pr_1 _) ?_
        subst h15
        refine j_iald C 0 0 rfl rfl dX6_costOf_18 (by decide) (by omega) (by omega) ?_
        refine j_aload_n C dX6_costOf_19 rfl ?_
        refine j_iload_n C dX6_costOf_20 rfl ?_
        refine j_iconst C dX6_costOf_21 ?_
        refine j_perm (pm_1 _) ?_
        refine j_callSi C (As := [.int (iI _), .int (iI _)]) (c_X6_p _ _ _ _ _ ) 2 nf_X6_p.2 wL_X6_79 wS_X6_p wIn_X6 wC_X6_p rfl rfl (by decide) dX6_costOf_22 (Nat.le_of_ble_eq_true rfl) ⟨Nat.le_of_ble_eq_true rfl, Nat.le_of_ble_eq_true rfl⟩ (fun x22 u22 h22 => ?_)
        refine j_perm (pr_1 _) ?_
        subst h22
        refine j_iald C 0 0 rfl rfl dX6_costOf_25 (by decide) (by omega) (by omega) ?_
        refine j_imul C dX6_costOf_26 ?_
        refine j_iadd C dX6_costOf_27 ?_
        refine j_istn_1 C dX6_costOf_28 rfl ?_
        refine j_iinc_2 C dX6_costOf_29 rfl ?_
        refine j_goto (tgt := 4) C dX6_costOf_32 (by decide) ?_
        exact ih4 _ _ (by omega) (by rw [sumZ_s _ hk.1, ← hy, (cel (S := W) k).2.2.1, (cel (S := W) k).2.2.2.1]) (by omega)
  exact L4 _ _ _ (by omega) (by rfl) (Nat.lt_succ_self _)
set_option maxHeartbeats 800000 in
set_option maxRecDepth 100000 in
theorem c_X6_one (l : Launch) (D : va_G) (cA : Nat → ClassId) (a : Nat → Nat) (G M R N1 D1 B1 S : Int → Int) (w : Int) (hI : Inv S) (hA : Ag S M) (hw : 0 ≤ w ∧ w ≤ 10) : MI (U := (Int → Int) × (Int → Int) × (Int → Int) × (Int → Int) × (Int → Int)) l yX6_one cX6_one 8 (some .int) (rmN 5 0 0) D cA [.ref (a 0), .int (iI w)] [mO a G, [(a 1, aJ (cA 0) 325 M)], [(a 7, aJ (cA 0) 8 R)], [(a 8, aJ (cA 0) 9 N1)], [(a 5, aJ (cA 0) 49 D1)], [(a 6, aJ (cA 0) 490 B1)]] (fun z u => z = valS S w ∧ KG G u.1) (fun u => [mO a u.1, [(a 1, aJ (cA 0) 325 M)], [(a 7, aJ (cA 0) 8 u.2.1)], [(a 8, aJ (cA 0) 9 u.2.2.1)], [(a 5, aJ (cA 0) 49 u.2.2.2.1)], [(a 6, aJ (cA 0) 490 u.2.2.2.2)]]) := by
  refine m_startI pn_X6 rfl (List.forall_mem_cons.mpr ⟨rfl, List.forall_mem_cons.mpr ⟨rfl, fun _ h => absurd h List.not_mem_nil⟩⟩) (Nat.le_of_ble_eq_true rfl) ?_
  intro K C e1 e2 e3 hin hR
  subst e1 e2 e3
  have hN := hI.2.1
  have hQ := hI.1
  have hM := Ag_h hA hN.1
  have hM0 := hM.1
  have hM1 := hM.2.1
  show J K 0 0 [mO a G, [(a 1, aJ ((kC K) 0) 325 M)], [(a 7, aJ ((kC K) 0) 8 R)], [(a 8, aJ ((kC K) 0) 9 N1)], [(a 5, aJ ((kC K) 0) 49 D1)], [(a 6, aJ ((kC K) 0) 490 B1)]] [some (.ref (a 0)), some (.int (iI w)), none, none, none, none, none, none] 0 []
  refine j_iconst C dX6_one_0 ?_
  refine j_istn_2 C dX6_one_1 rfl ?_
  refine j_iconst C dX6_one_2 ?_
  refine j_istn_3 C dX6_one_3 rfl ?_
  refine j_iconst C dX6_one_4 ?_
  refine j_ist_4 C dX6_one_5 rfl ?_
  refine j_iconst C dX6_one_7 ?_
  refine j_ist_5 C dX6_one_8 rfl ?_
  refine j_iconst C dX6_one_10 ?_
  refine j_ist_6 C dX6_one_11 rfl ?_
  have L13 : ∀ (fuel : Nat) (o q al k : Int) (hk : 0 ≤ k ∧ k ≤ S 1) (ho : o = sumZ (fun k => if am S k > 0 then 1 else 0) k) (hq : q = sumZ (fun k => di S k) k) (hal : al = sumZ (am S) k) (hf13 : (S 1 - k).toNat < fuel), J K 0 0 [mO a G, [(a 1, aJ ((kC K) 0) 325 M)], [(a 7, aJ ((kC K) 0) 8 R)], [(a 8, aJ ((kC K) 0) 9 N1)], [(a 5, aJ ((kC K) 0) 49 D1)], [(a 6, aJ ((kC K) 0) 490 B1)]] [some (.ref (a 0)), some (.int (iI w)), some (.int (iI o)), some (.int (iI q)), some (.int (iI al)), some (.int (iI 0)), some (.int (iI k)), none] 13 [] := by
    intro fuel
    induction fuel with
    | zero => intro o q al k hk ho hq hal hf13; exact absurd hf13 (Nat.not_lt_zero _)
    | succ fuel ih13 =>
      intro o q al k hk ho hq hal hf13
      refine j_iload C dX6_one_13 rfl ?_
      refine j_aload_n C dX6_one_15 rfl ?_
      refine j_get C 0 0 0 rfl rfl rfl wU_X6 (by decide) wF_X6_7 rfl dX6_one_16 ?_
      refine j_iconst C dX6_one_19 ?_
      refine j_iald C 1 0 rfl rfl dX6_one_20 (by decide) (by omega) (by omega) ?_
      refine j_icmp_ge (tgt := 82) C dX6_one_21 (by decide) (by omega) (by omega) (by omega) (by omega) (fun c21 => ?_) (fun c21 => ?_)
      · refine j_iconst C dX6_one_82 ?_
        refine j_ist_6 C dX6_one_83 rfl ?_
        have L85 : ∀ (fuel : Nat) (y p : Int) (hp : 0 ≤ p ∧ p ≤ S 0) (hy : y = sumZ (fun p => if netS S p > 0 then netS S p else 0) p) (hf85 : (S 0 - p).toNat < fuel), J K 0 0 [mO a G, [(a 1, aJ ((kC K) 0) 325 M)], [(a 7, aJ ((kC K) 0) 8 R)], [(a 8, aJ ((kC K) 0) 9 N1)], [(a 5, aJ ((kC K) 0) 49 D1)], [(a 6, aJ ((kC K) 0) 490 B1)]] [some (.ref (a 0)), some (.int (iI w)), some (.int (iI o)), some (.int (iI q)), some (.int (iI al)), some (.int (iI y)), some (.int (iI p)), none] 85 [] := by
          intro fuel
          induction fuel with
          | zero => intro y p hp hy hf85; exact absurd hf85 (Nat.not_lt_zero _)
          | succ fuel ih85 =>
            intro y p hp hy hf85
            refine j_iload C dX6_one_85 rfl ?_
            refine j_aload_n C dX6_one_87 rfl ?_
            refine j_get C 0 0 0 rfl rfl rfl wU_X6 (by decide) wF_X6_7 rfl dX6_one_88 ?_
            refine j_iconst C dX6_one_91 ?_
            refine j_iald C 1 0 rfl rfl dX6_one_92 (by decide) (by omega) (by omega) ?_
            refine j_icmp_ge (tgt := 126) C dX6_one_93 (by decide) (by omega) (by omega) (by omega) (by omega) (fun c93 => ?_) (fun c93 => ?_)
            · have e5 : o = opnS S := by rw [ho, show k = S 1 by omega]; rfl
              have e6 : q = disS S := by rw [hq, show k = S 1 by omega]; rfl
              have e7 : al = allS S := by rw [hal, show k = S 1 by omega]; rfl
              have e8 : y = gainS S := by rw [hy, show p = S 0 by omega]; rfl
              refine j_iload_n C dX6_one_126 rfl ?_
              by_cases q127_0 : w = 0
              · refine j_tabIn (tgt := 180) (v := 0) C dX6_one_127 q127_0 (by decide) (by decide) (by decide) (by decide) rfl (by decide) ?_
                refine j_aload_n C dX6_one_180 rfl ?_
                refine j_get C 0 0 0 rfl rfl rfl wU_X6 (by decide) wF_X6_7 rfl dX6_one_181 ?_
                refine j_iconst C dX6_one_184 ?_
                refine j_iald C 1 0 rfl rfl dX6_one_185 (by decide) (by omega) (by omega) ?_
                refine hR (G, R, N1, D1, B1) dX6_one_186 ?_ rfl (Nat.le_of_ble_eq_true rfl) (Nat.le_of_ble_eq_true rfl)
                refine ⟨?_, KG_rfl G⟩
                rw [q127_0]
                exact hM0
              by_cases q127_1 : w = 1
              · refine j_tabIn (tgt := 187) (v := 1) C dX6_one_127 q127_1 (by decide) (by decide) (by decide) (by decide) rfl (by decide) ?_
                refine j_aload_n C dX6_one_187 rfl ?_
                refine j_get C 0 0 0 rfl rfl rfl wU_X6 (by decide) wF_X6_7 rfl dX6_one_188 ?_
                refine j_iconst C dX6_one_191 ?_
                refine j_iald C 1 0 rfl rfl dX6_one_192 (by decide) (by omega) (by omega) ?_
                refine hR (G, R, N1, D1, B1) dX6_one_193 ?_ rfl (Nat.le_of_ble_eq_true rfl) (Nat.le_of_ble_eq_true rfl)
                refine ⟨?_, KG_rfl G⟩
                rw [q127_1]
                exact hM1
              by_cases q127_2 : w = 2
              · refine j_tabIn (tgt := 194) (v := 2) C dX6_one_127 q127_2 (by decide) (by decide) (by decide) (by decide) rfl (by decide) ?_
                refine j_iload_n C dX6_one_194 rfl ?_
                refine hR (G, R, N1, D1, B1) dX6_one_195 ?_ rfl (Nat.le_of_ble_eq_true rfl) (Nat.le_of_ble_eq_true rfl)
                refine ⟨?_, KG_rfl G⟩
                rw [q127_2]
                exact e5
              by_cases q127_3 : w = 3
              · refine j_tabIn (tgt := 196) (v := 3) C dX6_one_127 q127_3 (by decide) (by decide) (by decide) (by decide) rfl (by decide) ?_
                refine j_iload_n C dX6_one_196 rfl ?_
                refine hR (G, R, N1, D1, B1) dX6_one_197 ?_ rfl (Nat.le_of_ble_eq_true rfl) (Nat.le_of_ble_eq_true rfl)
                refine ⟨?_, KG_rfl G⟩
                rw [q127_3]
                exact e6
              by_cases q127_4 : w = 4
              · refine j_tabIn (tgt := 198) (v := 4) C dX6_one_127 q127_4 (by decide) (by decide) (by decide) (by decide) rfl (by decide) ?_
                refine j_iload C dX6_one_198 rfl ?_
                refine hR (G, R, N1, D1, B1) dX6_one_200 ?_ rfl (Nat.le_of_ble_eq_true rfl) (Nat.le_of_ble_eq_true rfl)
                refine ⟨?_, KG_rfl G⟩
                rw [q127_4]
                exact e7
              by_cases q127_5 : w = 5
              · refine j_tabIn (tgt := 201) (v := 5) C dX6_one_127 q127_5 (by decide) (by decide) (by decide) (by decide) rfl (by decide) ?_
                refine j_aload_n C dX6_one_201 rfl ?_
                refine j_get C 0 0 0 rfl rfl rfl wU_X6 (by decide) wF_X6_7 rfl dX6_one_202 ?_
                refine j_perm (pm_6_1 _ _ _ _ _ _) ?_
                refine j_callSi C (As := [.ref _]) (c_X6_costOf _ _ _ _ _ (by first | assumption | omega)) 1 nf_X6_costOf.2 wL_X6_182 wS_X6_costOf wIn_X6 wC_X6_costOf rfl rfl (by decide) dX6_one_205 (Nat.le_of_ble_eq_true rfl) ⟨Nat.le_of_ble_eq_true rfl, Nat.le_of_ble_eq_true rfl⟩ (fun x205 u205 h205 => ?_)
                refine j_perm (pr_6_1 _ _ _ _ _ _) ?_
                rw [cosS_ag hI hA] at h205
                refine hR (G, R, N1, D1, B1) dX6_one_208 ?_ rfl (Nat.le_of_ble_eq_true rfl) (Nat.le_of_ble_eq_true rfl)
                refine ⟨?_, KG_rfl G⟩
                rw [q127_5]
                exact h205
              by_cases q127_6 : w = 6
              · refine j_tabIn (tgt := 209) (v := 6) C dX6_one_127 q127_6 (by decide) (by decide) (by decide) (by decide) rfl (by decide) ?_
                refine j_aload_n C dX6_one_209 rfl ?_
                refine j_aload_n C dX6_one_210 rfl ?_
                refine j_get C 0 0 0 rfl rfl rfl wU_X6 (by decide) wF_X6_7 rfl dX6_one_211 ?_
                refine j_iconst C dX6_one_214 ?_
                refine j_perm (pm_6_0_1_2_3_4_5 _ _ _ _ _ _) ?_
                refine j_callVi C (As := [.ref _, .int (iI _)]) (c_X6_countRings _ _ _ _ _ _ _ _ _ _ _ _ (by exact Ag_Inv hI hA) (by omega)) 2 nf_X6_countRings (jb := 0) rfl rfl wL_X6_166 wI_X6_countRings wSe_X6_X6_countRings wIn_X6 wC_X6_countRings rfl rfl (by decide) dX6_one_215 (Nat.le_of_ble_eq_true rfl) ⟨Nat.le_of_ble_eq_true rfl, Nat.le_of_ble_eq_true rfl⟩ (fun x215 u215 h215 => ?_)
                refine j_perm (pr_6_0_1_2_3_4_5 _ _ _ _ _ _) ?_
                refine hR (st (st G 3 (M 0)) 4 0, u215.1, u215.2.1, u215.2.2.1, u215.2.2.2) dX6_one_218 ?_ rfl (Nat.le_of_ble_eq_true rfl) (Nat.le_of_ble_eq_true rfl)
                refine ⟨?_, KG_34 _ _ _⟩
                rw [q127_6, h215, rwO_RS, RS_ag hI hA]
                rfl
              by_cases q127_7 : w = 7
              · refine j_tabIn (tgt := 219) (v := 7) C dX6_one_127 q127_7 (by decide) (by decide) (by decide) (by decide) rfl (by decide) ?_
                refine j_aload_n C dX6_one_219 rfl ?_
                refine j_get C 0 0 0 rfl rfl rfl wU_X6 (by decide) wF_X6_7 rfl dX6_one_220 ?_
                refine j_iconst C dX6_one_223 ?_
                refine j_iald C 1 0 rfl rfl dX6_one_224 (by decide) (by omega) (by omega) ?_
                refine hR (G, R, N1, D1, B1) dX6_one_225 ?_ rfl (Nat.le_of_ble_eq_true rfl) (Nat.le_of_ble_eq_true rfl)
                refine ⟨?_, KG_rfl G⟩
                rw [q127_7]
                exact hM.2.2.1
              by_cases q127_8 : w = 8
              · refine j_tabIn (tgt := 226) (v := 8) C dX6_one_127 q127_8 (by decide) (by decide) (by decide) (by decide) rfl (by decide) ?_
                refine j_aload_n C dX6_one_226 rfl ?_
                refine j_get C 0 0 0 rfl rfl rfl wU_X6 (by decide) wF_X6_7 rfl dX6_one_227 ?_
                refine j_iconst C dX6_one_230 ?_
                refine j_iald C 1 0 rfl rfl dX6_one_231 (by decide) (by omega) (by omega) ?_
                refine hR (G, R, N1, D1, B1) dX6_one_232 ?_ rfl (Nat.le_of_ble_eq_true rfl) (Nat.le_of_ble_eq_true rfl)
                refine ⟨?_, KG_rfl G⟩
                rw [q127_8]
                exact hM.2.2.2.1
              by_cases q127_9 : w = 9
              · refine j_tabIn (tgt := 233) (v := 9) C dX6_one_127 q127_9 (by decide) (by decide) (by decide) (by decide) rfl (by decide) ?_
                refine j_aload_n C dX6_one_233 rfl ?_
                refine j_get C 0 0 0 rfl rfl rfl wU_X6 (by decide) wF_X6_7 rfl dX6_one_234 ?_
                refine j_iconst C dX6_one_237 ?_
                refine j_iald C 1 0 rfl rfl dX6_one_238 (by decide) (by omega) (by omega) ?_
                refine hR (G, R, N1, D1, B1) dX6_one_239 ?_ rfl (Nat.le_of_ble_eq_true rfl) (Nat.le_of_ble_eq_true rfl)
                refine ⟨?_, KG_rfl G⟩
                rw [q127_9]
                exact hM.2.2.2.2
              refine j_tabOut (tgt := 240) C dX6_one_127 (by omega) (by omega) (by omega) (by decide) ?_
              refine j_iload C dX6_one_240 rfl ?_
              refine hR (G, R, N1, D1, B1) dX6_one_242 ?_ rfl (Nat.le_of_ble_eq_true rfl) (Nat.le_of_ble_eq_true rfl)
              refine ⟨?_, KG_rfl G⟩
              rw [show w = 10 by omega]
              exact e8
            · refine j_aload_n C dX6_one_96 rfl ?_
              refine j_iload C dX6_one_97 rfl ?_
              refine j_perm (pm_6_0_1 _ _ _ _ _ _) ?_
              refine j_callVi C (As := [.int (iI _)]) (c_X6_netOf _ _ _ _ _ _ (S) _ (by first | assumption | omega) (by first | assumption | omega) (by first | assumption | omega)) 1 nf_X6_netOf (jb := 0) rfl rfl wL_X6_179 wI_X6_netOf wSe_X6_X6_netOf wIn_X6 wC_X6_netOf rfl rfl (by decide) dX6_one_99 (Nat.le_of_ble_eq_true rfl) ⟨Nat.le_of_ble_eq_true rfl, Nat.le_of_ble_eq_true rfl⟩ (fun x99 u99 h99 => ?_)
              refine j_perm (pr_6_0_1 _ _ _ _ _ _) ?_
              have hnb := netS_bd hI p
              refine j_ist_7 C dX6_one_102 rfl ?_
              have L117 : ∀ (v2 : Int) (hv2 : v2 = if netS S p > 0 then netS S p else 0), J K 0 0 [mO a G, [(a 1, aJ ((kC K) 0) 325 M)], [(a 7, aJ ((kC K) 0) 8 R)], [(a 8, aJ ((kC K) 0) 9 N1)], [(a 5, aJ ((kC K) 0) 49 D1)], [(a 6, aJ ((kC K) 0) 490 B1)]] [some (.ref (a 0)), some (.int (iI w)), some (.int (iI o)), some (.int (iI q)), some (.int (iI al)), some (.int (iI y)), some (.int (iI p)), none] 117 [.int (iI v2), .int (iI y)] := by
                intro v2 hv2
                refine j_iadd C dX6_one_117 ?_
                refine j_ist_5 C dX6_one_118 rfl ?_
                refine j_iinc_6 C dX6_one_120 rfl ?_
                refine j_goto (tgt := 85) C dX6_one_123 (by decide) ?_
                exact ih85 _ _ (by omega) (by rw [sumZ_s _ hp.1, ← hy, hv2]) (by omega)
              refine j_iload C dX6_one_104 rfl ?_
              refine j_iload C dX6_one_106 rfl ?_
              refine j_if_le (tgt := 116) C dX6_one_108 (by decide) (by omega) (by omega) (fun c108 => ?_) (fun c108 => ?_)
              · refine j_iconst C dX6_one_116 ?_
                exact j_lle (lv' := [_, _, _, _, _, _, _, none]) ⟨Or.inr rfl, ⟨Or.inr rfl, ⟨Or.inr rfl, ⟨Or.inr rfl, ⟨Or.inr rfl, ⟨Or.inr rfl, ⟨Or.inr rfl, ⟨Or.inl rfl, trivial⟩⟩⟩⟩⟩⟩⟩⟩ (L117 _ (by first | (rw [if_pos (by omega)]; omega) | (rw [if_neg (by omega)]; done)))
              · refine j_iload C dX6_one_111 rfl ?_
                refine j_goto (tgt := 117) C dX6_one_113 (by decide) ?_
                exact j_lle (lv' := [_, _, _, _, _, _, _, none]) ⟨Or.inr rfl, ⟨Or.inr rfl, ⟨Or.inr rfl, ⟨Or.inr rfl, ⟨Or.inr rfl, ⟨Or.inr rfl, ⟨Or.inr rfl, ⟨Or.inl rfl, trivial⟩⟩⟩⟩⟩⟩⟩⟩ (L117 _ (by first | (rw [if_pos (by omega)]; omega) | (rw [if_neg (by omega)]; done)))
        exact L85 _ _ _ (by omega) (by rfl) (Nat.lt_succ_self _)
      · have e := Ag_c hA hk.1 (show k < S 1 by omega)
        have f := hI.2.2 k hk.1 (by omega)
        refine j_iload_n C dX6_one_24 rfl ?_
        have L44 : ∀ (v : Int) (hv : v = if am S k > 0 then 1 else 0), J K 0 0 [mO a G, [(a 1, aJ ((kC K) 0) 325 M)], [(a 7, aJ ((kC K) 0) 8 R)], [(a 8, aJ ((kC K) 0) 9 N1)], [(a 5, aJ ((kC K) 0) 49 D1)], [(a 6, aJ ((kC K) 0) 490 B1)]] [some (.ref (a 0)), some (.int (iI w)), some (.int (iI o)), some (.int (iI q)), some (.int (iI al)), some (.int (iI 0)), some (.int (iI k)), none] 44 [.int (iI v), .int (iI o)] := by
          intro v hv
          refine j_iadd C dX6_one_44 ?_
          refine j_istn_2 C dX6_one_45 rfl ?_
          refine j_iload_n C dX6_one_46 rfl ?_
          refine j_aload_n C dX6_one_47 rfl ?_
          refine j_get C 0 0 0 rfl rfl rfl wU_X6 (by decide) wF_X6_7 rfl dX6_one_48 ?_
          refine j_iload C dX6_one_51 rfl ?_
          refine j_iconst C dX6_one_53 ?_
          refine j_perm (pm_6 _ _ _ _ _ _) ?_
          refine j_callSi C (As := [.int (iI _), .int (iI _)]) (c_X6_p _ _ _ _ _ ) 2 nf_X6_p.2 wL_X6_79 wS_X6_p wIn_X6 wC_X6_p rfl rfl (by decide) dX6_one_54 (Nat.le_of_ble_eq_true rfl) ⟨Nat.le_of_ble_eq_true rfl, Nat.le_of_ble_eq_true rfl⟩ (fun x54 u54 h54 => ?_)
          refine j_perm (pr_6 _ _ _ _ _ _) ?_
          subst h54
          refine j_iald C 1 0 rfl rfl dX6_one_57 (by decide) (by omega) (by omega) ?_
          refine j_iadd C dX6_one_58 ?_
          refine j_istn_3 C dX6_one_59 rfl ?_
          refine j_iload C dX6_one_60 rfl ?_
          refine j_aload_n C dX6_one_62 rfl ?_
          refine j_get C 0 0 0 rfl rfl rfl wU_X6 (by decide) wF_X6_7 rfl dX6_one_63 ?_
          refine j_iload C dX6_one_66 rfl ?_
          refine j_iconst C dX6_one_68 ?_
          refine j_perm (pm_6 _ _ _ _ _ _) ?_
          refine j_callSi C (As := [.int (iI _), .int (iI _)]) (c_X6_p _ _ _ _ _ ) 2 nf_X6_p.2 wL_X6_79 wS_X6_p wIn_X6 wC_X6_p rfl rfl (by decide) dX6_one_69 (Nat.le_of_ble_eq_true rfl) ⟨Nat.le_of_ble_eq_true rfl, Nat.le_of_ble_eq_true rfl⟩ (fun x69 u69 h69 => ?_)
          refine j_perm (pr_6 _ _ _ _ _ _) ?_
          subst h69
          refine j_iald C 1 0 rfl rfl dX6_one_72 (by decide) (by omega) (by omega) ?_
          refine j_iadd C dX6_one_73 ?_
          refine j_ist_4 C dX6_one_74 rfl ?_
          refine j_iinc_6 C dX6_one_76 rfl ?_
          refine j_goto (tgt := 13) C dX6_one_79 (by decide) ?_
          exact ih13 _ _ _ _ (by omega) (by rw [sumZ_s _ hk.1, ← ho, hv]) (by rw [sumZ_s _ hk.1, ← hq]; omega) (by rw [sumZ_s _ hk.1, ← hal]; omega) (by omega)
        refine j_aload_n C dX6_one_25 rfl ?_
        refine j_get C 0 0 0 rfl rfl rfl wU_X6 (by decide) wF_X6_7 rfl dX6_one_26 ?_
        refine j_iload C dX6_one_29 rfl ?_
        refine j_iconst C dX6_one_31 ?_
        refine j_perm (pm_6 _ _ _ _ _ _) ?_
        refine j_callSi C (As := [.int (iI _), .int (iI _)]) (c_X6_p _ _ _ _ _ ) 2 nf_X6_p.2 wL_X6_79 wS_X6_p wIn_X6 wC_X6_p rfl rfl (by decide) dX6_one_32 (Nat.le_of_ble_eq_true rfl) ⟨Nat.le_of_ble_eq_true rfl, Nat.le_of_ble_eq_true rfl⟩ (fun x32 u32 h32 => ?_)
        refine j_perm (pr_6 _ _ _ _ _ _) ?_
        subst h32
        refine j_iald C 1 0 rfl rfl dX6_one_35 (by decide) (by omega) (by omega) ?_
        refine j_if_le (tgt := 43) C dX6_one_36 (by decide) (by omega) (by omega) (fun c36 => ?_) (fun c36 => ?_)
        · refine j_iconst C dX6_one_43 ?_
          exact L44 _ (by first | (rw [if_pos (by omega)]; done) | (rw [if_neg (by omega)]; done))
        · refine j_iconst C dX6_one_39 ?_
          refine j_goto (tgt := 44) C dX6_one_40 (by decide) ?_
          exact L44 _ (by first | (rw [if_pos (by omega)]; done) | (rw [if_neg (by omega)]; done))
  exact L13 _ _ _ _ _ (by omega) (by rfl) (by rfl) (by rfl) (Nat.lt_succ_self _)
set_option maxHeartbeats 800000 in
set_option maxRecDepth 100000 in
theorem c_X6_value (l : Launch) (D : va_G) (cA : Nat → ClassId) (a : Nat → Nat) (G M R N1 D1 B1 S : Int → Int) (w : Int) (hI : Inv S) (hA : Ag S M) (hw : -2147483648 ≤ w ∧ w < 2147483648) : MI (U := (Int → Int) × (Int → Int) × (Int → Int) × (Int → Int) × (Int → Int)) l yX6_value cX6_value 2 (some .int) (rmN 6 0 0) D cA [.ref (a 0), .int (iI w)] [mO a G, [(a 1, aJ (cA 0) 325 M)], [(a 7, aJ (cA 0) 8 R)], [(a 8, aJ (cA 0) 9 N1)], [(a 5, aJ (cA 0) 49 D1)], [(a 6, aJ (cA 0) 490 B1)]] (fun z u => ((0 ≤ w ∧ w ≤ 10) ∧ z = valS S w ∧ RU G u.1 0) ∨ (¬ (0 ≤ w ∧ w ≤ 10) ∧ RU G u.1 1)) (fun u => [mO a u.1, [(a 1, aJ (cA 0) 325 M)], [(a 7, aJ (cA 0) 8 u.2.1)], [(a 8, aJ (cA 0) 9 u.2.2.1)], [(a 5, aJ (cA 0) 49 u.2.2.2.1)], [(a 6, aJ (cA 0) 490 u.2.2.2.2)]]) := by
  refine m_startI pn_X6 rfl (List.forall_mem_cons.mpr ⟨rfl, List.forall_mem_cons.mpr ⟨rfl, fun _ h => absurd h List.not_mem_nil⟩⟩) (Nat.le_of_ble_eq_true rfl) ?_
  intro K C e1 e2 e3 hin hR
  subst e1 e2 e3
  have hN := hI.2.1
  have hQ := hI.1
  have hM := Ag_h hA hN.1
  have hM0 := hM.1
  have hM1 := hM.2.1
  show J K 0 0 [mO a G, [(a 1, aJ ((kC K) 0) 325 M)], [(a 7, aJ ((kC K) 0) 8 R)], [(a 8, aJ ((kC K) 0) 9 N1)], [(a 5, aJ ((kC K) 0) 49 D1)], [(a 6, aJ ((kC K) 0) 490 B1)]] [some (.ref (a 0)), some (.int (iI w))] 0 []
  refine j_aload_n C dX6_value_0 rfl ?_
  have L16 : ∀ (x1 : Int) (hx1 : x1 = if ¬ (0 ≤ w ∧ w ≤ 10) then 1 else 0), J K 0 0 [mO a G, [(a 1, aJ ((kC K) 0) 325 M)], [(a 7, aJ ((kC K) 0) 8 R)], [(a 8, aJ ((kC K) 0) 9 N1)], [(a 5, aJ ((kC K) 0) 49 D1)], [(a 6, aJ ((kC K) 0) 490 B1)]] [some (.ref (a 0)), some (.int (iI w))] 16 [.int (iI x1), .ref (a 0)] := by
    intro x1 hx1
    have hbx1 : x1 = 0 ∨ x1 = 1 := by rw [hx1]; split <;> omega
    have qx1 := ite01 hx1
    refine j_iconst C dX6_value_16 ?_
    refine j_iconst C dX6_value_17 ?_
    refine j_perm (pm_6_0 _ _ _ _ _ _) ?_
    refine j_callVi C (As := [.int (iI _), .int (iI _), .int (iI _)]) (c_X6_goes _ _ _ _ _ _ _ _ (by first | assumption | omega) (by first | assumption | omega) (by first | assumption | omega)) 3 nf_X6_goes (jb := 0) rfl rfl wL_X6_146 wI_X6_goes wSe_X6_X6_goes wIn_X6 wC_X6_goes rfl rfl (by decide) dX6_value_18 (Nat.le_of_ble_eq_true rfl) ⟨Nat.le_of_ble_eq_true rfl, Nat.le_of_ble_eq_true rfl⟩ (fun x18 u18 h18 => ?_)
    refine j_perm (pr_6_0 _ _ _ _ _ _) ?_
    have q18 := goes3 h18
    have L33 : ∀ (z : Int) (G5 R5 N5 D5 B5 : Int → Int) (hz : ((0 ≤ w ∧ w ≤ 10) ∧ z = valS S w ∧ RU G G5 0) ∨ (¬ (0 ≤ w ∧ w ≤ 10) ∧ RU G G5 1)), J K 0 0 [mO a G5, [(a 1, aJ ((kC K) 0) 325 M)], [(a 7, aJ ((kC K) 0) 8 R5)], [(a 8, aJ ((kC K) 0) 9 N5)], [(a 5, aJ ((kC K) 0) 49 D5)], [(a 6, aJ ((kC K) 0) 490 B5)]] [some (.ref (a 0)), some (.int (iI w))] 33 [.int (iI z)] := by
      intro z G5 R5 N5 D5 B5 hz
      exact hR (G5, R5, N5, D5, B5) dX6_value_33 (by exact hz) rfl (Nat.le_of_ble_eq_true rfl) (Nat.le_of_ble_eq_true rfl)
    refine j_if_eq (tgt := 32) C dX6_value_21 (by decide) (by omega) (by omega) (fun c21 => ?_) (fun c21 => ?_)
    · refine j_iconst C dX6_value_32 ?_
      exact L33 _ _ _ _ _ _ (by first | exact Or.inl ⟨by omega, h26.1, RU_KG (RU_of (by omega)) h26.2⟩ | exact Or.inr ⟨by omega, RU_of (by omega)⟩)
    · refine j_aload_n C dX6_value_24 rfl ?_
      refine j_iload_n C dX6_value_25 rfl ?_
      refine j_perm (pm_6_0_1_2_3_4_5 _ _ _ _ _ _) ?_
      refine j_callVi C (As := [.int (iI _)]) (c_X6_one _ _ _ _ _ _ _ _ _ _ (S) _ (by first | assumption | omega) (by first | assumption | omega) (by first | assumption | omega)) 1 nf_X6_one (jb := 0) rfl rfl wL_X6_185 wI_X6_one wSe_X6_X6_one wIn_X6 wC_X6_one rfl rfl (by decide) dX6_value_26 (Nat.le_of_ble_eq_true rfl) ⟨Nat.le_of_ble_eq_true rfl, Nat.le_of_ble_eq_true rfl⟩ (fun x26 u26 h26 => ?_)
      refine j_perm (pr_6_0_1_2_3_4_5 _ _ _ _ _ _) ?_
      refine j_goto (tgt := 33) C dX6_value_29 (by decide) ?_
      exact L33 _ _ _ _ _ _ (by first | exact Or.inl ⟨by omega, h26.1, RU_KG (RU_of (by omega)) h26.2⟩ | exact Or.inr ⟨by omega, RU_of (by omega)⟩)
  refine j_iload_n C dX6_value_1 rfl ?_
  refine j_iconst C dX6_value_2 ?_
  refine j_bipush C dX6_value_3 (by decide) ?_
  refine j_perm (pm_6 _ _ _ _ _ _) ?_
  refine j_callSi C (As := [.int (iI _), .int (iI _), .int (iI _)]) (c_X6_in _ _ _ _ _ _ (by first | assumption | omega) (by first | assumption | omega) (by first | assumption | omega)) 3 nf_X6_in.2 wL_X6_68 wS_X6_in wIn_X6 wC_X6_in rfl rfl (by decide) dX6_value_5 (Nat.le_of_ble_eq_true rfl) ⟨Nat.le_of_ble_eq_true rfl, Nat.le_of_ble_eq_true rfl⟩ (fun x5 u5 h5 => ?_)
  refine j_perm (pr_6 _ _ _ _ _ _) ?_
  have q5 := ite01 h5
  refine j_if_ne (tgt := 15) C dX6_value_8 (by decide) (by omega) (by omega) (fun c8 => ?_) (fun c8 => ?_)
  · refine j_iconst C dX6_value_15 ?_
    exact L16 _ (by first | (rw [if_pos (by omega)]; done) | (rw [if_neg (by omega)]; done))
  · refine j_iconst C dX6_value_11 ?_
    refine j_goto (tgt := 16) C dX6_value_12 (by decide) ?_
    exact L16 _ (by first | (rw [if_pos (by omega)]; done) | (rw [if_neg (by omega)]; done))
set_option maxHeartbeats 800000 in
set_option maxRecDepth 100000 in
theorem c_X6_bestRing (l : Launch) (D : va_G) (cA : Nat → ClassId) (a : Nat → Nat) (G M R N1 D1 B1 BR S : Int → Int) (hI : Inv S) (hA : Ag S M) : MI (U := (Int → Int) × (Int → Int) × (Int → Int) × (Int → Int) × (Int → Int) × (Int → Int)) l yX6_bestRing cX6_bestRing 1 (some .int) (rmN 6 0 0) D cA [.ref (a 0)] [mO a G, [(a 1, aJ (cA 0) 325 M)], [(a 7, aJ (cA 0) 8 R)], [(a 8, aJ (cA 0) 9 N1)], [(a 5, aJ (cA 0) 49 D1)], [(a 6, aJ (cA 0) 490 B1)], [(a 9, aJ (cA 0) 8 BR)]] (fun z u => z = best S ∧ RU G u.1 0) (fun u => [mO a u.1, [(a 1, aJ (cA 0) 325 M)], [(a 7, aJ (cA 0) 8 u.2.1)], [(a 8, aJ (cA 0) 9 u.2.2.1)], [(a 5, aJ (cA 0) 49 u.2.2.2.1)], [(a 6, aJ (cA 0) 490 u.2.2.2.2.1)], [(a 9, aJ (cA 0) 8 u.2.2.2.2.2)]]) := by
  refine m_startI pn_X6 rfl (List.forall_mem_cons.mpr ⟨rfl, fun _ h => absurd h List.not_mem_nil⟩) (Nat.le_of_ble_eq_true rfl) ?_
  intro K C e1 e2 e3 hin hR
  subst e1 e2 e3
  have hN := hI.2.1
  have hQ := hI.1
  have hM := Ag_h hA hN.1
  have hM0 := hM.1
  have hM1 := hM.2.1
  show J K 0 0 [mO a G, [(a 1, aJ ((kC K) 0) 325 M)], [(a 7, aJ ((kC K) 0) 8 R)], [(a 8, aJ ((kC K) 0) 9 N1)], [(a 5, aJ ((kC K) 0) 49 D1)], [(a 6, aJ ((kC K) 0) 490 B1)], [(a 9, aJ ((kC K) 0) 8 BR)]] [some (.ref (a 0))] 0 []
  refine j_aload_n C dX6_bestRing_0 rfl ?_
  refine j_iconst C dX6_bestRing_1 ?_
  refine j_iconst C dX6_bestRing_2 ?_
  refine j_iconst C dX6_bestRing_3 ?_
  refine j_perm (pm_7_0 _ _ _ _ _ _ _) ?_
  refine j_callVi C (As := [.int (iI _), .int (iI _), .int (iI _)]) (c_X6_goes _ _ _ _ _ _ _ _ (by first | assumption | omega) (by first | assumption | omega) (by first | assumption | omega)) 3 nf_X6_goes (jb := 0) rfl rfl wL_X6_146 wI_X6_goes wSe_X6_X6_goes wIn_X6 wC_X6_goes rfl rfl (by decide) dX6_bestRing_4 (Nat.le_of_ble_eq_true rfl) ⟨Nat.le_of_ble_eq_true rfl, Nat.le_of_ble_eq_true rfl⟩ (fun x4 u4 h4 => ?_)
  refine j_perm (pr_7_0 _ _ _ _ _ _ _) ?_
  have q4 := goes3 h4
  refine j_pop C dX6_bestRing_7 rfl ?_
  refine j_aload_n C dX6_bestRing_8 rfl ?_
  refine j_aload_n C dX6_bestRing_9 rfl ?_
  refine j_get C 0 0 0 rfl rfl rfl wU_X6 (by decide) wF_X6_7 rfl dX6_bestRing_10 ?_
  refine j_perm (pm_7_0_1_2_3_4_5_6 _ _ _ _ _ _ _) ?_
  refine j_callVi C (As := [.ref _]) (c_X6_findsBest _ _ _ _ _ _ _ _ _ _ _ _ (by exact Ag_Inv hI hA)) 1 nf_X6_findsBest (jb := 0) rfl rfl wL_X6_138 wI_X6_findsBest wSe_X6_X6_findsBest wIn_X6 wC_X6_findsBest rfl rfl (by decide) dX6_bestRing_13 (Nat.le_of_ble_eq_true rfl) ⟨Nat.le_of_ble_eq_true rfl, Nat.le_of_ble_eq_true rfl⟩ (fun x13 u13 h13 => ?_)
  refine j_perm (pr_7_0_1_2_3_4_5_6 _ _ _ _ _ _ _) ?_
  obtain ⟨hk13, hb13, hd13, hx13, hn13⟩ := h13
  rw [(best_ag hI hA).1, (best_ag hI hA).2] at hb13
  rw [(best_ag hI hA).1] at hx13
  refine j_pop C dX6_bestRing_16 rfl ?_
  refine j_aload_n C dX6_bestRing_17 rfl ?_
  refine j_get C 0 0 13 rfl rfl rfl wU_X6 (by decide) wF_X6_121 rfl dX6_bestRing_18 ?_
  refine hR (u13.1, u13.2.1, u13.2.2.1, u13.2.2.2.1, u13.2.2.2.2.1, u13.2.2.2.2.2) dX6_bestRing_21 ?_ rfl (Nat.le_of_ble_eq_true rfl) (Nat.le_of_ble_eq_true rfl)
  exact ⟨hb13.1, RU_KG (RU_of (by omega)) hk13⟩
set_option maxHeartbeats 800000 in
set_option maxRecDepth 100000 in
theorem c_X6_costByRings (l : Launch) (D : va_G) (cA : Nat → ClassId) (a : Nat → Nat) (G M T R N1 D1 B1 BR S : Int → Int) (hI : Inv S) (hA : Ag S M) : MI (U := (Int → Int) × (Int → Int) × (Int → Int) × (Int → Int) × (Int → Int) × (Int → Int) × (Int → Int)) l yX6_costByRings cX6_costByRings 1 (some .int) (rmN 7 0 0) D cA [.ref (a 0)] [mO a G, [(a 1, aJ (cA 0) 325 M)], [(a 2, aJ (cA 0) 325 T)], [(a 7, aJ (cA 0) 8 R)], [(a 8, aJ (cA 0) 9 N1)], [(a 5, aJ (cA 0) 49 D1)], [(a 6, aJ (cA 0) 490 B1)], [(a 9, aJ (cA 0) 8 BR)]] (fun z u => z = cosS (disA 49 S 0).1 ∧ RU G u.1 0) (fun u => [mO a u.1, [(a 1, aJ (cA 0) 325 M)], [(a 2, aJ (cA 0) 325 u.2.1)], [(a 7, aJ (cA 0) 8 u.2.2.1)], [(a 8, aJ (cA 0) 9 u.2.2.2.1)], [(a 5, aJ (cA 0) 49 u.2.2.2.2.1)], [(a 6, aJ (cA 0) 490 u.2.2.2.2.2.1)], [(a 9, aJ (cA 0) 8 u.2.2.2.2.2.2)]]) := by
  refine m_startI pn_X6 rfl (List.forall_mem_cons.mpr ⟨rfl, fun _ h => absurd h List.not_mem_nil⟩) (Nat.le_of_ble_eq_true rfl) ?_
  intro K C e1 e2 e3 hin hR
  subst e1 e2 e3
  have hN := hI.2.1
  have hQ := hI.1
  have hM := Ag_h hA hN.1
  have hM0 := hM.1
  have hM1 := hM.2.1
  have hcp := cp_Ag (T := T) hI hA
  have hdA := disA_Ag 49 S (cpA M T 0 0 325) 0 hI hcp
  have hID := disA_Inv 49 S 0 hI
  show J K 0 0 [mO a G, [(a 1, aJ ((kC K) 0) 325 M)], [(a 2, aJ ((kC K) 0) 325 T)], [(a 7, aJ ((kC K) 0) 8 R)], [(a 8, aJ ((kC K) 0) 9 N1)], [(a 5, aJ ((kC K) 0) 49 D1)], [(a 6, aJ ((kC K) 0) 490 B1)], [(a 9, aJ ((kC K) 0) 8 BR)]] [some (.ref (a 0))] 0 []
  refine j_aload_n C dX6_costByRings_0 rfl ?_
  refine j_iconst C dX6_costByRings_1 ?_
  refine j_iconst C dX6_costByRings_2 ?_
  refine j_iconst C dX6_costByRings_3 ?_
  refine j_perm (pm_8_0 _ _ _ _ _ _ _ _) ?_
  refine j_callVi C (As := [.int (iI _), .int (iI _), .int (iI _)]) (c_X6_goes _ _ _ _ _ _ _ _ (by first | assumption | omega) (by first | assumption | omega) (by first | assumption | omega)) 3 nf_X6_goes (jb := 0) rfl rfl wL_X6_146 wI_X6_goes wSe_X6_X6_goes wIn_X6 wC_X6_goes rfl rfl (by decide) dX6_costByRings_4 (Nat.le_of_ble_eq_true rfl) ⟨Nat.le_of_ble_eq_true rfl, Nat.le_of_ble_eq_true rfl⟩ (fun x4 u4 h4 => ?_)
  refine j_perm (pr_8_0 _ _ _ _ _ _ _ _) ?_
  have q4 := goes3 h4
  refine j_pop C dX6_costByRings_7 rfl ?_
  refine j_aload_n C dX6_costByRings_8 rfl ?_
  refine j_get C 0 0 0 rfl rfl rfl wU_X6 (by decide) wF_X6_7 rfl dX6_costByRings_9 ?_
  refine j_iconst C dX6_costByRings_12 ?_
  refine j_aload_n C dX6_costByRings_13 rfl ?_
  refine j_get C 0 0 1 rfl rfl rfl wU_X6 (by decide) wF_X6_13 rfl dX6_costByRings_14 ?_
  refine j_iconst C dX6_costByRings_17 ?_
  refine j_perm (pm_8_1_2 _ _ _ _ _ _ _ _) ?_
  refine j_callSv C (As := [.ref _, .int (iI _), .ref _, .int (iI _)]) (c_X6_copies _ _ _ _ _ _ _ _ _ _ _ (by first | assumption | omega) (by first | assumption | omega) (by first | assumption | omega)) 4 nf_X6_copies.2 wL_X6_75 wS_X6_copies wIn_X6 wC_X6_copies rfl rfl (by decide) dX6_costByRings_18 (Nat.le_of_ble_eq_true rfl) ⟨Nat.le_of_ble_eq_true rfl, Nat.le_of_ble_eq_true rfl⟩ (fun u18 h18 => ?_)
  refine j_perm (pr_8_1_2 _ _ _ _ _ _ _ _) ?_
  refine j_aload_n C dX6_costByRings_21 rfl ?_
  refine j_aload_n C dX6_costByRings_22 rfl ?_
  refine j_get C 0 0 1 rfl rfl rfl wU_X6 (by decide) wF_X6_13 rfl dX6_costByRings_23 ?_
  refine j_perm (pm_8_0_2_3_4_5_6_7 _ _ _ _ _ _ _ _) ?_
  refine j_callVi C (As := [.ref _]) (c_X6_dischargesAll _ _ _ _ _ _ _ _ _ _ _ _ (by exact Ag_Inv hI hcp)) 1 nf_X6_dischargesAll (jb := 0) rfl rfl wL_X6_172 wI_X6_dischargesAll wSe_X6_X6_dischargesAll wIn_X6 wC_X6_dischargesAll rfl rfl (by decide) dX6_costByRings_26 (Nat.le_of_ble_eq_true rfl) ⟨Nat.le_of_ble_eq_true rfl, Nat.le_of_ble_eq_true rfl⟩ (fun x26 u26 h26 => ?_)
  refine j_perm (pr_8_0_2_3_4_5_6_7 _ _ _ _ _ _ _ _) ?_
  refine j_pop C dX6_costByRings_29 rfl ?_
  refine j_aload_n C dX6_costByRings_30 rfl ?_
  refine j_get C 0 0 1 rfl rfl rfl wU_X6 (by decide) wF_X6_13 rfl dX6_costByRings_31 ?_
  refine j_perm (pm_8_2 _ _ _ _ _ _ _ _) ?_
  refine j_callSi C (As := [.ref _]) (c_X6_costOf _ _ _ _ _ (by rw [(Ag_h hdA.1 hID.2.1.1).2.1]; exact hID.2.1)) 1 nf_X6_costOf.2 wL_X6_182 wS_X6_costOf wIn_X6 wC_X6_costOf rfl rfl (by decide) dX6_costByRings_34 (Nat.le_of_ble_eq_true rfl) ⟨Nat.le_of_ble_eq_true rfl, Nat.le_of_ble_eq_true rfl⟩ (fun x34 u34 h34 => ?_)
  refine j_perm (pr_8_2 _ _ _ _ _ _ _ _) ?_
  rw [cosS_ag hID hdA.1] at h34
  refine hR (u26.1, (disA 49 (cpA M T 0 0 325) 0).1, u26.2.1, u26.2.2.1, u26.2.2.2.1, u26.2.2.2.2.1, u26.2.2.2.2.2) dX6_costByRings_37 ?_ rfl (Nat.le_of_ble_eq_true rfl) (Nat.le_of_ble_eq_true rfl)
  exact ⟨h34, RU_KG (RU_of (by omega)) h26.1⟩
set_option maxHeartbeats 800000 in
set_option maxRecDepth 100000 in
theorem c_X6_leastCost (l : Launch) (D : va_G) (cA : Nat → ClassId) (a : Nat → Nat) (G M X L1 F1 B1 S : Int → Int) (hI : Inv S) (hA : Ag S M) : MI (U := (Int → Int) × (Int → Int) × (Int → Int) × (Int → Int) × (Int → Int)) l yX6_leastCost cX6_leastCost 1 (some .int) (rmN 5 0 0) D cA [.ref (a 0)] [mO a G, [(a 1, aJ (cA 0) 325 M)], [(a 10, aJ (cA 0) 40 X)], [(a 11, aJ (cA 0) 7 L1)], [(a 12, aJ (cA 0) 7 F1)], [(a 13, aJ (cA 0) 7 B1)]] (fun z u => z = leastS S ∧ RU G u.1 0) (fun u => [mO a u.1, [(a 1, aJ (cA 0) 325 M)], [(a 10, aJ (cA 0) 40 u.2.1)], [(a 11, aJ (cA 0) 7 u.2.2.1)], [(a 12, aJ (cA 0) 7 u.2.2.2.1)], [(a 13, aJ (cA 0) 7 u.2.2.2.2)]]) := by
  refine m_startI pn_X6 rfl (List.forall_mem_cons.mpr ⟨rfl, fun _ h => absurd h List.not_mem_nil⟩) (Nat.le_of_ble_eq_true rfl) ?_
  intro K C e1 e2 e3 hin hR
  subst e1 e2 e3
  show J K 0 0 [mO a G, [(a 1, aJ ((kC K) 0) 325 M)], [(a 10, aJ ((kC K) 0) 40 X)], [(a 11, aJ ((kC K) 0) 7 L1)], [(a 12, aJ ((kC K) 0) 7 F1)], [(a 13, aJ ((kC K) 0) 7 B1)]] [some (.ref (a 0))] 0 []
  refine j_aload_n C dX6_leastCost_0 rfl ?_
  refine j_iconst C dX6_leastCost_1 ?_
  refine j_iconst C dX6_leastCost_2 ?_
  refine j_iconst C dX6_leastCost_3 ?_
  refine j_perm (pm_6_0 _ _ _ _ _ _) ?_
  refine j_callVi C (As := [.int (iI _), .int (iI _), .int (iI _)]) (c_X6_goes _ _ _ _ _ _ _ _ (by first | assumption | omega) (by first | assumption | omega) (by first | assumption | omega)) 3 nf_X6_goes (jb := 0) rfl rfl wL_X6_146 wI_X6_goes wSe_X6_X6_goes wIn_X6 wC_X6_goes rfl rfl (by decide) dX6_leastCost_4 (Nat.le_of_ble_eq_true rfl) ⟨Nat.le_of_ble_eq_true rfl, Nat.le_of_ble_eq_true rfl⟩ (fun x4 u4 h4 => ?_)
  refine j_perm (pr_6_0 _ _ _ _ _ _) ?_
  have q4 := goes3 h4
  refine j_pop C dX6_leastCost_7 rfl ?_
  refine j_aload_n C dX6_leastCost_8 rfl ?_
  refine j_perm (pm_6_0_1_2_3_4_5 _ _ _ _ _ _) ?_
  refine j_callVi C (As := []) (c_X6_leastOf _ _ _ _ _ _ _ _ _ _ (S) (by first | assumption | omega) (by first | assumption | omega)) 0 nf_X6_leastOf (jb := 0) rfl rfl wL_X6_204 wI_X6_leastOf wSe_X6_X6_leastOf wIn_X6 wC_X6_leastOf rfl rfl (by decide) dX6_leastCost_9 (Nat.le_of_ble_eq_true rfl) ⟨Nat.le_of_ble_eq_true rfl, Nat.le_of_ble_eq_true rfl⟩ (fun x9 u9 h9 => ?_)
  refine j_perm (pr_6_0_1_2_3_4_5 _ _ _ _ _ _) ?_
  refine hR (st G 2 u4, u9.1, u9.2.1, u9.2.2.1, u9.2.2.2) dX6_leastCost_12 ?_ rfl (Nat.le_of_ble_eq_true rfl) (Nat.le_of_ble_eq_true rfl)
  exact ⟨h9, RU_of (by omega)⟩
set_option maxHeartbeats 800000 in
set_option maxRecDepth 100000 in
theorem c_X6_keyPromise (l : Launch) (D : va_G) (cA : Nat → ClassId) (a : Nat → Nat) (G M R N1 D1 B1 S : Int → Int) (hI : Inv S) (hA : Ag S M) : MI (U := (Int → Int) × (Int → Int) × (Int → Int) × (Int → Int) × (Int → Int)) l yX6_keyPromise cX6_keyPromise 6 (some .int) (rmN 5 0 0) D cA [.ref (a 0)] [mO a G, [(a 1, aJ (cA 0) 325 M)], [(a 7, aJ (cA 0) 8 R)], [(a 8, aJ (cA 0) 9 N1)], [(a 5, aJ (cA 0) 49 D1)], [(a 6, aJ (cA 0) 490 B1)]] (fun z u => z = keyS S ∧ RU G u.1 0) (fun u => [mO a u.1, [(a 1, aJ (cA 0) 325 M)], [(a 7, aJ (cA 0) 8 u.2.1)], [(a 8, aJ (cA 0) 9 u.2.2.1)], [(a 5, aJ (cA 0) 49 u.2.2.2.1)], [(a 6, aJ (cA 0) 490 u.2.2.2.2)]]) := by
  refine m_startI pn_X6 rfl (List.forall_mem_cons.mpr ⟨rfl, fun _ h => absurd h List.not_mem_nil⟩) (Nat.le_of_ble_eq_true rfl) ?_
  intro K C e1 e2 e3 hin hR
  subst e1 e2 e3
  have hN := hI.2.1
  have hQ := hI.1
  have hM := Ag_h hA hN.1
  have hM0 := hM.1
  have hM1 := hM.2.1
  show J K 0 0 [mO a G, [(a 1, aJ ((kC K) 0) 325 M)], [(a 7, aJ ((kC K) 0) 8 R)], [(a 8, aJ ((kC K) 0) 9 N1)], [(a 5, aJ ((kC K) 0) 49 D1)], [(a 6, aJ ((kC K) 0) 490 B1)]] [some (.ref (a 0)), none, none, none, none, none] 0 []
  refine j_aload_n C dX6_keyPromise_0 rfl ?_
  refine j_iconst C dX6_keyPromise_1 ?_
  refine j_iconst C dX6_keyPromise_2 ?_
  refine j_iconst C dX6_keyPromise_3 ?_
  refine j_perm (pm_6_0 _ _ _ _ _ _) ?_
  refine j_callVi C (As := [.int (iI _), .int (iI _), .int (iI _)]) (c_X6_goes _ _ _ _ _ _ _ _ (by first | assumption | omega) (by first | assumption | omega) (by first | assumption | omega)) 3 nf_X6_goes (jb := 0) rfl rfl wL_X6_146 wI_X6_goes wSe_X6_X6_goes wIn_X6 wC_X6_goes rfl rfl (by decide) dX6_keyPromise_4 (Nat.le_of_ble_eq_true rfl) ⟨Nat.le_of_ble_eq_true rfl, Nat.le_of_ble_eq_true rfl⟩ (fun x4 u4 h4 => ?_)
  refine j_perm (pr_6_0 _ _ _ _ _ _) ?_
  have q4 := goes3 h4
  refine j_pop C dX6_keyPromise_7 rfl ?_
  refine j_iconst C dX6_keyPromise_8 ?_
  refine j_istn_1 C dX6_keyPromise_9 rfl ?_
  refine j_iconst C dX6_keyPromise_10 ?_
  refine j_istn_2 C dX6_keyPromise_11 rfl ?_
  refine j_iconst C dX6_keyPromise_12 ?_
  refine j_istn_3 C dX6_keyPromise_13 rfl ?_
  have L14 : ∀ (fuel : Nat) (b f i : Int) (G5 R5 N5 D5 B5 : Int → Int) (hRU : RU G G5 0) (hi : 0 ≤ i ∧ i ≤ S 1) (hbf : -1 ≤ b ∧ b < 40 ∧ 0 ≤ f ∧ f ≤ 2365) (hy : key S (S 1 - i).toNat i b f = keyS S) (hf14 : (S 1 - i).toNat < fuel), J K 0 0 [mO a G5, [(a 1, aJ ((kC K) 0) 325 M)], [(a 7, aJ ((kC K) 0) 8 R5)], [(a 8, aJ ((kC K) 0) 9 N5)], [(a 5, aJ ((kC K) 0) 49 D5)], [(a 6, aJ ((kC K) 0) 490 B5)]] [some (.ref (a 0)), some (.int (iI b)), some (.int (iI f)), some (.int (iI i)), none, none] 14 [] := by
    intro fuel
    induction fuel with
    | zero => intro b f i G5 R5 N5 D5 B5 hRU hi hbf hy hf14; exact absurd hf14 (Nat.not_lt_zero _)
    | succ fuel ih14 =>
      intro b f i G5 R5 N5 D5 B5 hRU hi hbf hy hf14
      refine j_iload_n C dX6_keyPromise_14 rfl ?_
      refine j_aload_n C dX6_keyPromise_15 rfl ?_
      refine j_get C 0 0 0 rfl rfl rfl wU_X6 (by decide) wF_X6_7 rfl dX6_keyPromise_16 ?_
      refine j_iconst C dX6_keyPromise_19 ?_
      refine j_iald C 1 0 rfl rfl dX6_keyPromise_20 (by decide) (by omega) (by omega) ?_
      refine j_icmp_ge (tgt := 90) C dX6_keyPromise_21 (by decide) (by omega) (by omega) (by omega) (by omega) (fun c21 => ?_) (fun c21 => ?_)
      · refine j_iload_n C dX6_keyPromise_90 rfl ?_
        refine hR (G5, R5, N5, D5, B5) dX6_keyPromise_91 ?_ rfl (Nat.le_of_ble_eq_true rfl) (Nat.le_of_ble_eq_true rfl)
        rw [show (S 1 - i).toNat = 0 by omega] at hy
        exact ⟨hy, hRU⟩
      · have e := Ag_c hA hi.1 (show i < S 1 by omega)
        have f0 := hI.2.2 i hi.1 (by omega)
        refine j_aload_n C dX6_keyPromise_24 rfl ?_
        have L84 : ∀ (b6 f6 : Int) (G6 R6 N6 D6 B6 : Int → Int) (hRU6 : RU G G6 0) (hb6 : -1 ≤ b6 ∧ b6 < 40) (hk6 : key S (S 1 - (i + 1)).toNat (i + 1) b6 f6 = keyS S ∧ 0 ≤ f6 ∧ f6 ≤ 2365), J K 0 0 [mO a G6, [(a 1, aJ ((kC K) 0) 325 M)], [(a 7, aJ ((kC K) 0) 8 R6)], [(a 8, aJ ((kC K) 0) 9 N6)], [(a 5, aJ ((kC K) 0) 49 D6)], [(a 6, aJ ((kC K) 0) 490 B6)]] [some (.ref (a 0)), some (.int (iI b6)), some (.int (iI f6)), some (.int (iI i)), none, none] 84 [] := by
          intro b6 f6 G6 R6 N6 D6 B6 hRU6 hb6 hk6
          refine j_iinc_3 C dX6_keyPromise_84 rfl ?_
          refine j_goto (tgt := 14) C dX6_keyPromise_87 (by decide) ?_
          exact ih14 _ _ _ _ _ _ _ _ (by exact hRU6) (by omega) (by exact ⟨by omega, by omega, hk6.2.1, hk6.2.2⟩) (by exact hk6.1) (by omega)
        refine j_iload_n C dX6_keyPromise_25 rfl ?_
        refine j_perm (pm_6_0_1 _ _ _ _ _ _) ?_
        refine j_callVi C (As := [.int (iI _)]) (c_X6_isFree _ _ _ _ _ _ (S) _ (by first | assumption | omega) (by first | assumption | omega) (by omega)) 1 nf_X6_isFree (jb := 0) rfl rfl wL_X6_163 wI_X6_isFree wSe_X6_X6_isFree wIn_X6 wC_X6_isFree rfl rfl (by decide) dX6_keyPromise_26 (Nat.le_of_ble_eq_true rfl) ⟨Nat.le_of_ble_eq_true rfl, Nat.le_of_ble_eq_true rfl⟩ (fun x26 u26 h26 => ?_)
        refine j_perm (pr_6_0_1 _ _ _ _ _ _) ?_
        have q26 := ite01 h26
        refine j_if_eq (tgt := 84) C dX6_keyPromise_29 (by decide) (by omega) (by omega) (fun c29 => ?_) (fun c29 => ?_)
        · exact L84 _ _ _ _ _ _ _ (by first | exact RU_KG hRU (KG_34 _ _ _) | exact hRU) (by omega) (by refine ⟨?_, by omega, by omega⟩; rw [← hy, show (S 1 - i).toNat = (S 1 - (i + 1)).toNat + 1 by omega, key_s, if_neg (by omega)])
        · refine j_aload_n C dX6_keyPromise_32 rfl ?_
          refine j_aload_n C dX6_keyPromise_33 rfl ?_
          refine j_get C 0 0 0 rfl rfl rfl wU_X6 (by decide) wF_X6_7 rfl dX6_keyPromise_34 ?_
          refine j_iload_n C dX6_keyPromise_37 rfl ?_
          refine j_perm (pm_6_0_1_2_3_4_5 _ _ _ _ _ _) ?_
          refine j_callVi C (As := [.ref _, .int (iI _)]) (c_X6_countRings _ _ _ _ _ _ _ _ _ _ _ _ (by exact Ag_Inv hI hA) (by omega)) 2 nf_X6_countRings (jb := 0) rfl rfl wL_X6_166 wI_X6_countRings wSe_X6_X6_countRings wIn_X6 wC_X6_countRings rfl rfl (by decide) dX6_keyPromise_38 (Nat.le_of_ble_eq_true rfl) ⟨Nat.le_of_ble_eq_true rfl, Nat.le_of_ble_eq_true rfl⟩ (fun x38 u38 h38 => ?_)
          refine j_perm (pr_6_0_1_2_3_4_5 _ _ _ _ _ _) ?_
          rw [rwO_ag hI hA] at h38
          subst h38
          have hrw := rwO_bd hI i
          refine j_ist_4 C dX6_keyPromise_41 rfl ?_
          have L59 : ∀ (t5 : Int) (ht5 : t5 = if b = -1 ∨ rwO S i < f then 1 else 0), J K 0 0 [mO a (st (st G5 3 (M 0)) 4 0), [(a 1, aJ ((kC K) 0) 325 M)], [(a 7, aJ ((kC K) 0) 8 u38.1)], [(a 8, aJ ((kC K) 0) 9 u38.2.1)], [(a 5, aJ ((kC K) 0) 49 u38.2.2.1)], [(a 6, aJ ((kC K) 0) 490 u38.2.2.2)]] [some (.ref (a 0)), some (.int (iI b)), some (.int (iI f)), some (.int (iI i)), some (.int (iI (rwO S i))), none] 59 [.int (iI t5)] := by
            intro t5 ht5
            have qt5 := ite01 ht5
            refine j_ist_5 C dX6_keyPromise_59 rfl ?_
            have L72 : ∀ (v1 : Int) (hv1 : v1 = if b = -1 ∨ rwO S i < f then rwO S i else f), J K 0 0 [mO a (st (st G5 3 (M 0)) 4 0), [(a 1, aJ ((kC K) 0) 325 M)], [(a 7, aJ ((kC K) 0) 8 u38.1)], [(a 8, aJ ((kC K) 0) 9 u38.2.1)], [(a 5, aJ ((kC K) 0) 49 u38.2.2.1)], [(a 6, aJ ((kC K) 0) 490 u38.2.2.2)]] [some (.ref (a 0)), some (.int (iI b)), some (.int (iI f)), some (.int (iI i)), some (.int (iI (rwO S i))), some (.int (iI t5))] 72 [.int (iI v1)] := by
              intro v1 hv1
              have hv1b : 0 ≤ v1 ∧ v1 ≤ 2365 := by rw [hv1]; split <;> omega
              refine j_istn_2 C dX6_keyPromise_72 rfl ?_
              have L83 : ∀ (v2 : Int) (hv2 : v2 = if b = -1 ∨ rwO S i < f then i else b), J K 0 0 [mO a (st (st G5 3 (M 0)) 4 0), [(a 1, aJ ((kC K) 0) 325 M)], [(a 7, aJ ((kC K) 0) 8 u38.1)], [(a 8, aJ ((kC K) 0) 9 u38.2.1)], [(a 5, aJ ((kC K) 0) 49 u38.2.2.1)], [(a 6, aJ ((kC K) 0) 490 u38.2.2.2)]] [some (.ref (a 0)), some (.int (iI b)), some (.int (iI v1)), some (.int (iI i)), some (.int (iI (rwO S i))), some (.int (iI t5))] 83 [.int (iI v2)] := by
                intro v2 hv2
                have hv2b : -1 ≤ v2 ∧ v2 < 40 := by rw [hv2]; split <;> omega
                have hkk : key S (S 1 - (i + 1)).toNat (i + 1) v2 v1 = key S (S 1 - i).toNat i b f := by
                  rw [show (S 1 - i).toNat = (S 1 - (i + 1)).toNat + 1 by omega, key_s, if_pos (by omega), hv1, hv2]
                  by_cases c : b = -1 ∨ rwO S i < f
                  · rw [if_pos c, if_pos c, if_pos c]
                  · rw [if_neg c, if_neg c, if_neg c]
                have hv2e := hy
                refine j_istn_1 C dX6_keyPromise_83 rfl ?_
                exact j_lle (lv' := [_, _, _, _, none, none]) ⟨Or.inr rfl, ⟨Or.inr rfl, ⟨Or.inr rfl, ⟨Or.inr rfl, ⟨Or.inl rfl, ⟨Or.inl rfl, trivial⟩⟩⟩⟩⟩⟩ (L84 _ _ _ _ _ _ _ (by first | exact RU_KG hRU (KG_34 _ _ _) | exact hRU) (by omega) (by exact ⟨by rw [hkk, hv2e], hv1b⟩))
              refine j_iload C dX6_keyPromise_73 rfl ?_
              refine j_if_eq (tgt := 82) C dX6_keyPromise_75 (by decide) (by omega) (by omega) (fun c75 => ?_) (fun c75 => ?_)
              · refine j_iload_n C dX6_keyPromise_82 rfl ?_
                exact L83 _ (by first | (rw [if_pos (by omega)]; done) | (rw [if_neg (by omega)]; done))
              · refine j_iload_n C dX6_keyPromise_78 rfl ?_
                refine j_goto (tgt := 83) C dX6_keyPromise_79 (by decide) ?_
                exact L83 _ (by first | (rw [if_pos (by omega)]; done) | (rw [if_neg (by omega)]; done))
            refine j_iload C dX6_keyPromise_61 rfl ?_
            refine j_if_eq (tgt := 71) C dX6_keyPromise_63 (by decide) (by omega) (by omega) (fun c63 => ?_) (fun c63 => ?_)
            · refine j_iload_n C dX6_keyPromise_71 rfl ?_
              exact L72 _ (by first | (rw [if_pos (by omega)]; done) | (rw [if_neg (by omega)]; done))
            · refine j_iload C dX6_keyPromise_66 rfl ?_
              refine j_goto (tgt := 72) C dX6_keyPromise_68 (by decide) ?_
              exact L72 _ (by first | (rw [if_pos (by omega)]; done) | (rw [if_neg (by omega)]; done))
          refine j_iload_n C dX6_keyPromise_43 rfl ?_
          refine j_iconst C dX6_keyPromise_44 ?_
          refine j_icmp_eq (tgt := 54) C dX6_keyPromise_45 (by decide) (by omega) (by omega) (by omega) (by omega) (fun c45 => ?_) (fun c45 => ?_)
          · refine j_iconst C dX6_keyPromise_54 ?_
            refine j_goto (tgt := 59) C dX6_keyPromise_55 (by decide) ?_
            exact L59 _ (by first | (rw [if_pos (by omega)]; done) | (rw [if_neg (by omega)]; done))
          · refine j_iload C dX6_keyPromise_48 rfl ?_
            refine j_iload_n C dX6_keyPromise_50 rfl ?_
            refine j_icmp_ge (tgt := 58) C dX6_keyPromise_51 (by decide) (by omega) (by omega) (by omega) (by omega) (fun c51 => ?_) (fun c51 => ?_)
            · refine j_iconst C dX6_keyPromise_58 ?_
              exact L59 _ (by first | (rw [if_pos (by omega)]; done) | (rw [if_neg (by omega)]; done))
            · refine j_iconst C dX6_keyPromise_54 ?_
              refine j_goto (tgt := 59) C dX6_keyPromise_55 (by decide) ?_
              exact L59 _ (by first | (rw [if_pos (by omega)]; done) | (rw [if_neg (by omega)]; done))
  exact L14 _ _ _ _ _ _ _ _ _ (by exact RU_of (by omega)) (by omega) (by omega) (by rw [show S 1 - 0 = S 1 by omega]; rfl) (Nat.lt_succ_self _)
set_option maxHeartbeats 800000 in
set_option maxRecDepth 100000 in
theorem c_X6_mutual (l : Launch) (D : va_G) (cA : Nat → ClassId) (a : Nat → Nat) (G M N1 D1 B1 S : Int → Int) (p : Int) (hI : Inv S) (hA : Ag S M) (hp : -2147483648 ≤ p ∧ p < 2147483648) : MI (U := (Int → Int) × (Int → Int) × (Int → Int) × (Int → Int)) l yX6_mutual cX6_mutual 4 (some .int) (rmN 4 0 0) D cA [.ref (a 0), .int (iI p)] [mO a G, [(a 1, aJ (cA 0) 325 M)], [(a 8, aJ (cA 0) 9 N1)], [(a 5, aJ (cA 0) 49 D1)], [(a 6, aJ (cA 0) 490 B1)]] (fun z u => ((0 ≤ p ∧ p < S 0) ∧ z = mutS S p ∧ RU G u.1 0) ∨ (¬ (0 ≤ p ∧ p < S 0) ∧ RU G u.1 1)) (fun u => [mO a u.1, [(a 1, aJ (cA 0) 325 M)], [(a 8, aJ (cA 0) 9 u.2.1)], [(a 5, aJ (cA 0) 49 u.2.2.1)], [(a 6, aJ (cA 0) 490 u.2.2.2)]]) := by
  refine m_startI pn_X6 rfl (List.forall_mem_cons.mpr ⟨rfl, List.forall_mem_cons.mpr ⟨rfl, fun _ h => absurd h List.not_mem_nil⟩⟩) (Nat.le_of_ble_eq_true rfl) ?_
  intro K C e1 e2 e3 hin hR
  subst e1 e2 e3
  have hN := hI.2.1
  have hQ := hI.1
  have hM := Ag_h hA hN.1
  have hM0 := hM.1
  have hM1 := hM.2.1
  show J K 0 0 [mO a G, [(a 1, aJ ((kC K) 0) 325 M)], [(a 8, aJ ((kC K) 0) 9 N1)], [(a 5, aJ ((kC K) 0) 49 D1)], [(a 6, aJ ((kC K) 0) 490 B1)]] [some (.ref (a 0)), some (.int (iI p)), none, none] 0 []
  refine j_aload_n C dX6_mutual_0 rfl ?_
  have L14 : ∀ (x1 : Int) (hx1 : x1 = if ¬ (0 ≤ p ∧ p < S 0) then 1 else 0), J K 0 0 [mO a G, [(a 1, aJ ((kC K) 0) 325 M)], [(a 8, aJ ((kC K) 0) 9 N1)], [(a 5, aJ ((kC K) 0) 49 D1)], [(a 6, aJ ((kC K) 0) 490 B1)]] [some (.ref (a 0)), some (.int (iI p)), none, none] 14 [.int (iI x1), .ref (a 0)] := by
    intro x1 hx1
    have hbx1 : x1 = 0 ∨ x1 = 1 := by rw [hx1]; split <;> omega
    have qx1 := ite01 hx1
    refine j_iconst C dX6_mutual_14 ?_
    refine j_iconst C dX6_mutual_15 ?_
    refine j_perm (pm_5_0 _ _ _ _ _) ?_
    refine j_callVi C (As := [.int (iI _), .int (iI _), .int (iI _)]) (c_X6_goes _ _ _ _ _ _ _ _ (by first | assumption | omega) (by first | assumption | omega) (by first | assumption | omega)) 3 nf_X6_goes (jb := 0) rfl rfl wL_X6_146 wI_X6_goes wSe_X6_X6_goes wIn_X6 wC_X6_goes rfl rfl (by decide) dX6_mutual_16 (Nat.le_of_ble_eq_true rfl) ⟨Nat.le_of_ble_eq_true rfl, Nat.le_of_ble_eq_true rfl⟩ (fun x16 u16 h16 => ?_)
    refine j_perm (pr_5_0 _ _ _ _ _) ?_
    have q16 := goes3 h16
    refine j_if_ne (tgt := 24) C dX6_mutual_19 (by decide) (by omega) (by omega) (fun c19 => ?_) (fun c19 => ?_)
    · have hpp : (0 ≤ p ∧ p < S 0) := by omega
      refine j_aload_n C dX6_mutual_24 rfl ?_
      refine j_aload_n C dX6_mutual_25 rfl ?_
      refine j_get C 0 0 0 rfl rfl rfl wU_X6 (by decide) wF_X6_7 rfl dX6_mutual_26 ?_
      refine j_iconst C dX6_mutual_29 ?_
      refine j_perm (pm_5_0_1_3_4_2 _ _ _ _ _) ?_
      refine j_callVv C (As := [.ref _, .int (iI _)]) (c_X6_begins _ _ _ _ _ _ _ _ _ _ _ (by exact Ag_Inv hI hA) (by omega)) 2 nf_X6_begins (jb := 0) rfl rfl wL_X6_96 wI_X6_begins wSe_X6_X6_begins wIn_X6 wC_X6_begins rfl rfl (by decide) dX6_mutual_30 (Nat.le_of_ble_eq_true rfl) ⟨Nat.le_of_ble_eq_true rfl, Nat.le_of_ble_eq_true rfl⟩ (fun u30 h30 => ?_)
      refine j_perm (pr_5_0_1_3_4_2 _ _ _ _ _) ?_
      refine j_iconst C dX6_mutual_33 ?_
      refine j_istn_2 C dX6_mutual_34 rfl ?_
      refine j_iconst C dX6_mutual_35 ?_
      refine j_istn_3 C dX6_mutual_36 rfl ?_
      have L37 : ∀ (fuel : Nat) (y k : Int) (hk : 0 ≤ k ∧ k ≤ S 0) (hy : y = sumZ (fun k => min (debS S p k) (debS S k p)) k) (hf37 : (S 0 - k).toNat < fuel), J K 0 0 [mO a (st (st (st G 2 u16) 3 (M 0)) 4 0), [(a 1, aJ ((kC K) 0) 325 M)], [(a 8, aJ ((kC K) 0) 9 (st N1 0 0))], [(a 5, aJ ((kC K) 0) 49 u30.1)], [(a 6, aJ ((kC K) 0) 490 u30.2)]] [some (.ref (a 0)), some (.int (iI p)), some (.int (iI y)), some (.int (iI k))] 37 [] := by
        intro fuel
        induction fuel with
        | zero => intro y k hk hy hf37; exact absurd hf37 (Nat.not_lt_zero _)
        | succ fuel ih37 =>
          intro y k hk hy hf37
          refine j_iload_n C dX6_mutual_37 rfl ?_
          refine j_aload_n C dX6_mutual_38 rfl ?_
          refine j_get C 0 0 0 rfl rfl rfl wU_X6 (by decide) wF_X6_7 rfl dX6_mutual_39 ?_
          refine j_iconst C dX6_mutual_42 ?_
          refine j_iald C 1 0 rfl rfl dX6_mutual_43 (by decide) (by omega) (by omega) ?_
          refine j_icmp_ge (tgt := 90) C dX6_mutual_44 (by decide) (by omega) (by omega) (by omega) (by omega) (fun c44 => ?_) (fun c44 => ?_)
          · refine j_iload_n C dX6_mutual_90 rfl ?_
            refine hR (st (st (st G 2 u16) 3 (M 0)) 4 0, st N1 0 0, u30.1, u30.2) dX6_mutual_91 ?_ rfl (Nat.le_of_ble_eq_true rfl) (Nat.le_of_ble_eq_true rfl)
            refine Or.inl ⟨hpp, ?_, RU_KG (RU_of (by omega)) (KG_34 _ _ _)⟩
            rw [hy, show k = S 0 by omega]
            rfl
          · have hd1 : u30.1 (7 * p + k) = debS S p k := by rw [h30.1 _ (by omega) (by omega), dWn, dQ_ag hI hA, debS_ag hI (by omega) (by omega)]
            have hd2 : u30.1 (7 * k + p) = debS S k p := by rw [h30.1 _ (by omega) (by omega), dWn, dQ_ag hI hA, debS_ag hI (by omega) (by omega)]
            have hb1 := debS_bd hI p k
            have hb2 := debS_bd hI k p
            refine j_iload_n C dX6_mutual_47 rfl ?_
            have L82 : ∀ (v : Int) (hv : v = min (debS S p k) (debS S k p)), J K 0 0 [mO a (st (st (st G 2 u16) 3 (M 0)) 4 0), [(a 1, aJ ((kC K) 0) 325 M)], [(a 8, aJ ((kC K) 0) 9 (st N1 0 0))], [(a 5, aJ ((kC K) 0) 49 u30.1)], [(a 6, aJ ((kC K) 0) 490 u30.2)]] [some (.ref (a 0)), some (.int (iI p)), some (.int (iI y)), some (.int (iI k))] 82 [.int (iI v), .int (iI y)] := by
              intro v hv
              refine j_iadd C dX6_mutual_82 ?_
              refine j_istn_2 C dX6_mutual_83 rfl ?_
              refine j_iinc_3 C dX6_mutual_84 rfl ?_
              refine j_goto (tgt := 37) C dX6_mutual_87 (by decide) ?_
              exact ih37 _ _ (by omega) (by rw [sumZ_s _ hk.1, ← hy, hv]) (by omega)
            refine j_iload_n C dX6_mutual_48 rfl ?_
            refine j_iload_n C dX6_mutual_49 rfl ?_
            refine j_icmp_ne (tgt := 57) C dX6_mutual_50 (by decide) (by omega) (by omega) (by omega) (by omega) (fun c50 => ?_) (fun c50 => ?_)
            · refine j_aload_n C dX6_mutual_57 rfl ?_
              refine j_get C 0 0 7 rfl rfl rfl wU_X6 (by decide) wF_X6_22 rfl dX6_mutual_58 ?_
              refine j_bipush C dX6_mutual_61 (by decide) ?_
              refine j_iload_n C dX6_mutual_63 rfl ?_
              refine j_imul C dX6_mutual_64 ?_
              refine j_iload_n C dX6_mutual_65 rfl ?_
              refine j_iadd C dX6_mutual_66 ?_
              refine j_iald C 3 0 rfl rfl dX6_mutual_67 (by decide) (by omega) (by omega) ?_
              refine j_aload_n C dX6_mutual_68 rfl ?_
              refine j_get C 0 0 7 rfl rfl rfl wU_X6 (by decide) wF_X6_22 rfl dX6_mutual_69 ?_
              refine j_bipush C dX6_mutual_72 (by decide) ?_
              refine j_iload_n C dX6_mutual_74 rfl ?_
              refine j_imul C dX6_mutual_75 ?_
              refine j_iload_n C dX6_mutual_76 rfl ?_
              refine j_iadd C dX6_mutual_77 ?_
              refine j_iald C 3 0 rfl rfl dX6_mutual_78 (by decide) (by omega) (by omega) ?_
              refine j_perm (pm_5 _ _ _ _ _) ?_
              refine j_callSi C (As := [.int (iI _), .int (iI _)]) (c_X6_least _ _ _ _ _ (by first | assumption | omega) (by first | assumption | omega)) 2 nf_X6_least.2 wL_X6_104 wS_X6_least wIn_X6 wC_X6_least rfl rfl (by decide) dX6_mutual_79 (Nat.le_of_ble_eq_true rfl) ⟨Nat.le_of_ble_eq_true rfl, Nat.le_of_ble_eq_true rfl⟩ (fun x79 u79 h79 => ?_)
              refine j_perm (pr_5 _ _ _ _ _) ?_
              exact L82 _ (by first | (rw [show k = p by omega, debS_self hI (by omega) (by omega)]; rfl) | (rw [h79, hd1, hd2]))
            · refine j_iconst C dX6_mutual_53 ?_
              refine j_goto (tgt := 82) C dX6_mutual_54 (by decide) ?_
              exact L82 _ (by first | (rw [show k = p by omega, debS_self hI (by omega) (by omega)]; rfl) | (rw [h79, hd1, hd2]))
      exact L37 _ _ _ (by omega) (by rfl) (Nat.lt_succ_self _)
    · refine j_iconst C dX6_mutual_22 ?_
      refine hR (st G 2 u16, N1, D1, B1) dX6_mutual_23 ?_ rfl (Nat.le_of_ble_eq_true rfl) (Nat.le_of_ble_eq_true rfl)
      exact Or.inr ⟨by omega, RU_of (by omega)⟩
  refine j_aload_n C dX6_mutual_1 rfl ?_
  refine j_iload_n C dX6_mutual_2 rfl ?_
  refine j_perm (pm_5_0_1 _ _ _ _ _) ?_
  refine j_callVi C (As := [.int (iI _)]) (c_X6_isParty _ _ _ _ _ _ _ (by first | assumption | omega) (by first | assumption | omega)) 1 nf_X6_isParty (jb := 0) rfl rfl wL_X6_153 wI_X6_isParty wSe_X6_X6_isParty wIn_X6 wC_X6_isParty rfl rfl (by decide) dX6_mutual_3 (Nat.le_of_ble_eq_true rfl) ⟨Nat.le_of_ble_eq_true rfl, Nat.le_of_ble_eq_true rfl⟩ (fun x3 u3 h3 => ?_)
  refine j_perm (pr_5_0_1 _ _ _ _ _) ?_
  have q3 := ite01 h3
  refine j_if_ne (tgt := 13) C dX6_mutual_6 (by decide) (by omega) (by omega) (fun c6 => ?_) (fun c6 => ?_)
  · refine j_iconst C dX6_mutual_13 ?_
    exact L14 _ (by first | (rw [if_pos (by omega)]; done) | (rw [if_neg (by omega)]; done))
  · refine j_iconst C dX6_mutual_9 ?_
    refine j_goto (tgt := 14) C dX6_mutual_10 (by decide) ?_
    exact L14 _ (by first | (rw [if_pos (by omega)]; done) | (rw [if_neg (by omega)]; done))
set_option maxHeartbeats 800000 in
set_option maxRecDepth 100000 in
theorem c_X6_append (l : Launch) (D : va_G) (cA : Nat → ClassId) (a : Nat → Nat) (G t : Int → Int) (w : Int) (hl : 0 ≤ G 1 ∧ G 1 ≤ 100) (hw : -2147483648 ≤ w ∧ w < 2147483648) : MI (U := (Int → Int) × (Int → Int)) l yX6_append cX6_append 2 (some .int) (rmN 2 0 0) D cA [.ref (a 0), .int (iI w)] [mO a G, [(a 4, aJ (cA 0) 100 t)]] (fun z u => (((0 ≤ w ∧ w ≤ 127) ∧ G 1 < 100) ∧ z = G 1 + 1 ∧ (u.1 0 = G 0 ∧ u.1 1 = G 1 + 1 ∧ u.1 2 = 0) ∧ u.2 = st t (G 1) w) ∨ (u.2 = t ∧ ((¬ (0 ≤ w ∧ w ≤ 127) ∧ RU G u.1 1) ∨ ((0 ≤ w ∧ w ≤ 127) ∧ G 1 = 100 ∧ RU G u.1 2)))) (fun u => [mO a u.1, [(a 4, aJ (cA 0) 100 u.2)]]) := by
  refine m_startI pn_X6 rfl (List.forall_mem_cons.mpr ⟨rfl, List.forall_mem_cons.mpr ⟨rfl, fun _ h => absurd h List.not_mem_nil⟩⟩) (Nat.le_of_ble_eq_true rfl) ?_
  intro K C e1 e2 e3 hin hR
  subst e1 e2 e3
  show J K 0 0 [mO a G, [(a 4, aJ ((kC K) 0) 100 t)]] [some (.ref (a 0)), some (.int (iI w))] 0 []
  refine j_aload_n C dX6_append_0 rfl ?_
  have L16 : ∀ (x1 : Int) (hx1 : x1 = if ¬ (0 ≤ w ∧ w ≤ 127) then 1 else 0), J K 0 0 [mO a G, [(a 4, aJ ((kC K) 0) 100 t)]] [some (.ref (a 0)), some (.int (iI w))] 16 [.int (iI x1), .ref (a 0)] := by
    intro x1 hx1
    have hbx1 : x1 = 0 ∨ x1 = 1 := by rw [hx1]; split <;> omega
    have qx1 := ite01 hx1
    have L30 : ∀ (y1 : Int) (hy1 : y1 = if G 1 = 100 then 1 else 0), J K 0 0 [mO a G, [(a 4, aJ ((kC K) 0) 100 t)]] [some (.ref (a 0)), some (.int (iI w))] 30 [.int (iI y1), .int (iI x1), .ref (a 0)] := by
      intro y1 hy1
      have hby1 : y1 = 0 ∨ y1 = 1 := by rw [hy1]; split <;> omega
      have qy1 := ite01 hy1
      refine j_iconst C dX6_append_30 ?_
      refine j_perm (pm_2_0 _ _) ?_
      refine j_callVi C (As := [.int (iI _), .int (iI _), .int (iI _)]) (c_X6_goes _ _ _ _ _ _ _ _ (by first | assumption | omega) (by first | assumption | omega) (by first | assumption | omega)) 3 nf_X6_goes (jb := 0) rfl rfl wL_X6_146 wI_X6_goes wSe_X6_X6_goes wIn_X6 wC_X6_goes rfl rfl (by decide) dX6_append_31 (Nat.le_of_ble_eq_true rfl) ⟨Nat.le_of_ble_eq_true rfl, Nat.le_of_ble_eq_true rfl⟩ (fun x31 u31 h31 => ?_)
      refine j_perm (pr_2_0 _ _) ?_
      have q31 := goes3 h31
      refine j_if_ne (tgt := 39) C dX6_append_34 (by decide) (by omega) (by omega) (fun c34 => ?_) (fun c34 => ?_)
      · have e1 : st G 2 u31 1 = G 1 := st_n (by omega)
        refine j_aload_n C dX6_append_39 rfl ?_
        refine j_get C 0 0 4 rfl rfl rfl wU_X6 (by decide) wF_X6_19 rfl dX6_append_40 ?_
        refine j_aload_n C dX6_append_43 rfl ?_
        refine j_get C 0 0 5 rfl rfl rfl wU_X6 (by decide) wF_X6_207 rfl dX6_append_44 ?_
        refine j_iload_n C dX6_append_47 rfl ?_
        refine j_iast_p1 C 0 rfl ar1_ast dX6_append_48 (by decide) (by omega) (by omega) ?_
        refine j_aload_n C dX6_append_49 rfl ?_
        refine j_dup C dX6_append_50 rfl ?_
        refine j_get C 0 0 5 rfl rfl rfl wU_X6 (by decide) wF_X6_207 rfl dX6_append_51 ?_
        refine j_iconst C dX6_append_54 ?_
        refine j_iadd C dX6_append_55 ?_
        refine j_put_p0 C 0 5 rfl mO_put1 rfl wU_X6 tyX6_ok nmX6 (by decide) wF_X6_207 rfl rfl rfl (Nat.le_of_ble_eq_true rfl) dX6_append_56 ?_
        refine j_aload_n C dX6_append_59 rfl ?_
        refine j_get C 0 0 5 rfl rfl rfl wU_X6 (by decide) wF_X6_207 rfl dX6_append_60 ?_
        refine hR (st (st G 2 u31) 1 (st G 2 u31 1 + 1), st t (st G 2 u31 1) w) dX6_append_63 ?_ rfl (Nat.le_of_ble_eq_true rfl) (Nat.le_of_ble_eq_true rfl)
        have f0 : st (st G 2 u31) 1 (st G 2 u31 1 + 1) 0 = G 0 := by rw [st_n (by omega), st_n (by omega)]
        have f1 : st (st G 2 u31) 1 (st G 2 u31 1 + 1) 1 = G 1 + 1 := by rw [st_s, e1]
        have f2 : st (st G 2 u31) 1 (st G 2 u31 1 + 1) 2 = 0 := by rw [st_n (by omega), st_s]; omega
        exact Or.inl ⟨by omega, f1, ⟨f0, f1, f2⟩, by rw [e1]⟩
      · refine j_iconst C dX6_append_37 ?_
        refine hR (st G 2 u31, t) dX6_append_38 ?_ rfl (Nat.le_of_ble_eq_true rfl) (Nat.le_of_ble_eq_true rfl)
        refine Or.inr ⟨rfl, ?_⟩
        rcases q31 with q | q | q | q
        · exact Or.inl ⟨by omega, RU_of q.2.1⟩
        · exact Or.inr ⟨by omega, by omega, RU_of q.2.2.1⟩
        · omega
        · omega
    refine j_aload_n C dX6_append_16 rfl ?_
    refine j_get C 0 0 5 rfl rfl rfl wU_X6 (by decide) wF_X6_207 rfl dX6_append_17 ?_
    refine j_bipush C dX6_append_20 (by decide) ?_
    refine j_icmp_ne (tgt := 29) C dX6_append_22 (by decide) (by omega) (by omega) (by omega) (by omega) (fun c22 => ?_) (fun c22 => ?_)
    · refine j_iconst C dX6_append_29 ?_
      exact L30 _ (by first | (rw [if_pos (by omega)]; done) | (rw [if_neg (by omega)]; done))
    · refine j_iconst C dX6_append_25 ?_
      refine j_goto (tgt := 30) C dX6_append_26 (by decide) ?_
      exact L30 _ (by first | (rw [if_pos (by omega)]; done) | (rw [if_neg (by omega)]; done))
  refine j_iload_n C dX6_append_1 rfl ?_
  refine j_iconst C dX6_append_2 ?_
  refine j_bipush C dX6_append_3 (by decide) ?_
  refine j_perm (pm_2 _ _) ?_
  refine j_callSi C (As := [.int (iI _), .int (iI _), .int (iI _)]) (c_X6_in _ _ _ _ _ _ (by first | assumption | omega) (by first | assumption | omega) (by first | assumption | omega)) 3 nf_X6_in.2 wL_X6_68 wS_X6_in wIn_X6 wC_X6_in rfl rfl (by decide) dX6_append_5 (Nat.le_of_ble_eq_true rfl) ⟨Nat.le_of_ble_eq_true rfl, Nat.le_of_ble_eq_true rfl⟩ (fun x5 u5 h5 => ?_)
  refine j_perm (pr_2 _ _) ?_
  have q5 := ite01 h5
  refine j_if_ne (tgt := 15) C dX6_append_8 (by decide) (by omega) (by omega) (fun c8 => ?_) (fun c8 => ?_)
  · refine j_iconst C dX6_append_15 ?_
    exact L16 _ (by first | (rw [if_pos (by omega)]; done) | (rw [if_neg (by omega)]; done))
  · refine j_iconst C dX6_append_11 ?_
    refine j_goto (tgt := 16) C dX6_append_12 (by decide) ?_
    exact L16 _ (by first | (rw [if_pos (by omega)]; done) | (rw [if_neg (by omega)]; done))
set_option maxHeartbeats 800000 in
set_option maxRecDepth 100000 in
theorem c_X6_clearText (l : Launch) (D : va_G) (cA : Nat → ClassId) (a : Nat → Nat) (G : Int → Int)  : MI (U := Int → Int) l yX6_clearText cX6_clearText 2 (some .int) (rmN 2 0 0) D cA [.ref (a 0)] [mO a G] (fun z u => z = G 1 ∧ u 0 = G 0 ∧ u 1 = 0 ∧ u 2 = 0) (fun u => [mO a u]) := by
  refine m_startI pn_X6 rfl (List.forall_mem_cons.mpr ⟨rfl, fun _ h => absurd h List.not_mem_nil⟩) (Nat.le_of_ble_eq_true rfl) ?_
  intro K C e1 e2 e3 hin hR
  subst e1 e2 e3
  show J K 0 0 [mO a G] [some (.ref (a 0)), none] 0 []
  refine j_aload_n C dX6_clearText_0 rfl ?_
  refine j_iconst C dX6_clearText_1 ?_
  refine j_iconst C dX6_clearText_2 ?_
  refine j_iconst C dX6_clearText_3 ?_
  refine j_perm (pm_1_0 _) ?_
  refine j_callVi C (As := [.int (iI _), .int (iI _), .int (iI _)]) (c_X6_goes _ _ _ _ _ _ _ _ (by first | assumption | omega) (by first | assumption | omega) (by first | assumption | omega)) 3 nf_X6_goes (jb := 0) rfl rfl wL_X6_146 wI_X6_goes wSe_X6_X6_goes wIn_X6 wC_X6_goes rfl rfl (by decide) dX6_clearText_4 (Nat.le_of_ble_eq_true rfl) ⟨Nat.le_of_ble_eq_true rfl, Nat.le_of_ble_eq_true rfl⟩ (fun x4 u4 h4 => ?_)
  refine j_perm (pr_1_0 _) ?_
  have q4 := goes3 h4
  refine j_pop C dX6_clearText_7 rfl ?_
  refine j_aload_n C dX6_clearText_8 rfl ?_
  refine j_get C 0 0 5 rfl rfl rfl wU_X6 (by decide) wF_X6_207 rfl dX6_clearText_9 ?_
  refine j_istn_1 C dX6_clearText_12 rfl ?_
  refine j_aload_n C dX6_clearText_13 rfl ?_
  refine j_iconst C dX6_clearText_14 ?_
  refine j_put_p0 C 0 5 rfl mO_put1 rfl wU_X6 tyX6_ok nmX6 (by decide) wF_X6_207 rfl rfl rfl (Nat.le_of_ble_eq_true rfl) dX6_clearText_15 ?_
  refine j_iload_n C dX6_clearText_18 rfl ?_
  refine hR (st (st G 2 u4) 1 0) dX6_clearText_19 ?_ rfl (Nat.le_of_ble_eq_true rfl) (Nat.le_of_ble_eq_true rfl)
  have f0 : st (st G 2 u4) 1 0 0 = G 0 := by rw [st_n (by omega), st_n (by omega)]
  have f2 : st (st G 2 u4) 1 0 2 = 0 := by rw [st_n (by omega), st_s]; omega
  exact ⟨st_n (by omega), f0, st_s _ _ _, f2⟩
set_option maxHeartbeats 800000 in
set_option maxRecDepth 100000 in
theorem c_X6_undo (l : Launch) (D : va_G) (cA : Nat → ClassId) (a : Nat → Nat) (G M V : Int → Int) (hc : 0 ≤ G 0 ∧ G 0 ≤ 4) : MI (U := (Int → Int) × (Int → Int)) l yX6_undo cX6_undo 1 (some .int) (rmN 2 0 0) D cA [.ref (a 0)] [mO a G, [(a 1, aJ (cA 0) 325 M)], [(a 3, aJ (cA 0) 1300 V)]] (fun z u => (0 < G 0 ∧ z = G 0 - 1 ∧ (u.1 0 = G 0 - 1 ∧ u.1 1 = G 1 ∧ u.1 2 = 0) ∧ u.2 = cpA V M (325 * (G 0 - 1)) 0 325) ∨ (u.2 = M ∧ G 0 = 0 ∧ RU G u.1 1)) (fun u => [mO a u.1, [(a 1, aJ (cA 0) 325 u.2)], [(a 3, aJ (cA 0) 1300 V)]]) := by
  refine m_startI pn_X6 rfl (List.forall_mem_cons.mpr ⟨rfl, fun _ h => absurd h List.not_mem_nil⟩) (Nat.le_of_ble_eq_true rfl) ?_
  intro K C e1 e2 e3 hin hR
  subst e1 e2 e3
  show J K 0 0 [mO a G, [(a 1, aJ ((kC K) 0) 325 M)], [(a 3, aJ ((kC K) 0) 1300 V)]] [some (.ref (a 0))] 0 []
  refine j_aload_n C dX6_undo_0 rfl ?_
  have L13 : ∀ (x1 : Int) (hx1 : x1 = if G 0 = 0 then 1 else 0), J K 0 0 [mO a G, [(a 1, aJ ((kC K) 0) 325 M)], [(a 3, aJ ((kC K) 0) 1300 V)]] [some (.ref (a 0))] 13 [.int (iI x1), .ref (a 0)] := by
    intro x1 hx1
    have hbx1 : x1 = 0 ∨ x1 = 1 := by rw [hx1]; split <;> omega
    have qx1 := ite01 hx1
    refine j_iconst C dX6_undo_13 ?_
    refine j_iconst C dX6_undo_14 ?_
    refine j_perm (pm_3_0 _ _ _) ?_
    refine j_callVi C (As := [.int (iI _), .int (iI _), .int (iI _)]) (c_X6_goes _ _ _ _ _ _ _ _ (by first | assumption | omega) (by first | assumption | omega) (by first | assumption | omega)) 3 nf_X6_goes (jb := 0) rfl rfl wL_X6_146 wI_X6_goes wSe_X6_X6_goes wIn_X6 wC_X6_goes rfl rfl (by decide) dX6_undo_15 (Nat.le_of_ble_eq_true rfl) ⟨Nat.le_of_ble_eq_true rfl, Nat.le_of_ble_eq_true rfl⟩ (fun x15 u15 h15 => ?_)
    refine j_perm (pr_3_0 _ _ _) ?_
    have q15 := goes3 h15
    refine j_if_ne (tgt := 23) C dX6_undo_18 (by decide) (by omega) (by omega) (fun c18 => ?_) (fun c18 => ?_)
    · have e0 : st G 2 u15 0 = G 0 := st_n (by omega)
      have e1 : st (st G 2 u15) 0 (st G 2 u15 0 - 1) 0 = G 0 - 1 := (st_s _ _ _).trans (by rw [e0])
      refine j_aload_n C dX6_undo_23 rfl ?_
      refine j_dup C dX6_undo_24 rfl ?_
      refine j_get C 0 0 3 rfl rfl rfl wU_X6 (by decide) wF_X6_72 rfl dX6_undo_25 ?_
      refine j_iconst C dX6_undo_28 ?_
      refine j_isub C dX6_undo_29 ?_
      refine j_put_p0 C 0 3 rfl mO_put0 rfl wU_X6 tyX6_ok nmX6 (by decide) wF_X6_72 rfl rfl rfl (Nat.le_of_ble_eq_true rfl) dX6_undo_30 ?_
      refine j_aload_n C dX6_undo_33 rfl ?_
      refine j_get C 0 0 2 rfl rfl rfl wU_X6 (by decide) wF_X6_16 rfl dX6_undo_34 ?_
      refine j_sipush C dX6_undo_37 (by decide) ?_
      refine j_aload_n C dX6_undo_40 rfl ?_
      refine j_get C 0 0 3 rfl rfl rfl wU_X6 (by decide) wF_X6_72 rfl dX6_undo_41 ?_
      refine j_imul C dX6_undo_44 ?_
      refine j_aload_n C dX6_undo_45 rfl ?_
      refine j_get C 0 0 0 rfl rfl rfl wU_X6 (by decide) wF_X6_7 rfl dX6_undo_46 ?_
      refine j_iconst C dX6_undo_49 ?_
      refine j_perm (pm_3_2_1 _ _ _) ?_
      refine j_callSv C (As := [.ref _, .int (iI _), .ref _, .int (iI _)]) (c_X6_copies _ _ _ _ _ _ _ _ _ _ _ (by first | assumption | omega) (by first | assumption | omega) (by first | assumption | omega)) 4 nf_X6_copies.2 wL_X6_75 wS_X6_copies wIn_X6 wC_X6_copies rfl rfl (by decide) dX6_undo_50 (Nat.le_of_ble_eq_true rfl) ⟨Nat.le_of_ble_eq_true rfl, Nat.le_of_ble_eq_true rfl⟩ (fun u50 h50 => ?_)
      refine j_perm (pr_3_2_1 _ _ _) ?_
      refine j_aload_n C dX6_undo_53 rfl ?_
      refine j_get C 0 0 3 rfl rfl rfl wU_X6 (by decide) wF_X6_72 rfl dX6_undo_54 ?_
      refine hR (st (st G 2 u15) 0 (st G 2 u15 0 - 1), cpA V M (325 * (st (st G 2 u15) 0 (st G 2 u15 0 - 1) 0)) 0 325) dX6_undo_57 ?_ rfl (Nat.le_of_ble_eq_true rfl) (Nat.le_of_ble_eq_true rfl)
      have f1 : st (st G 2 u15) 0 (st G 2 u15 0 - 1) 1 = G 1 := by rw [st_n (by omega), st_n (by omega)]
      have f2 : st (st G 2 u15) 0 (st G 2 u15 0 - 1) 2 = 0 := by rw [st_n (by omega), st_s]; omega
      exact Or.inl ⟨by omega, e1, ⟨e1, f1, f2⟩, by rw [e1]⟩
    · refine j_iconst C dX6_undo_21 ?_
      refine hR (st G 2 u15, M) dX6_undo_22 ?_ rfl (Nat.le_of_ble_eq_true rfl) (Nat.le_of_ble_eq_true rfl)
      exact Or.inr ⟨rfl, by omega, RU_of (by omega)⟩
  refine j_aload_n C dX6_undo_1 rfl ?_
  refine j_get C 0 0 3 rfl rfl rfl wU_X6 (by decide) wF_X6_72 rfl dX6_undo_2 ?_
  refine j_if_ne (tgt := 12) C dX6_undo_5 (by decide) (by omega) (by omega) (fun c5 => ?_) (fun c5 => ?_)
  · refine j_iconst C dX6_undo_12 ?_
    exact L13 _ (by first | (rw [if_pos (by omega)]; done) | (rw [if_neg (by omega)]; done))
  · refine j_iconst C dX6_undo_8 ?_
    refine j_goto (tgt := 13) C dX6_undo_9 (by decide) ?_
    exact L13 _ (by first | (rw [if_pos (by omega)]; done) | (rw [if_neg (by omega)]; done))
set_option maxHeartbeats 800000 in
set_option maxRecDepth 100000 in
theorem c_X6_digest (l : Launch) (D : va_G) (cA : Nat → ClassId) (a : Nat → Nat) (G M R N1 D1 B1 BR X L1 F1 BY1 S : Int → Int) (hI : Inv S) (hAg : Ag S M) : ML (U := ((Int → Int) × (Int → Int) × (Int → Int) × (Int → Int)) × (Int → Int) × (Int → Int) × (Int → Int) × (Int → Int) × (Int → Int) × (Int → Int)) l yX6_digest cX6_digest 5 (some .long) (rmN 7 0 0) D cA [.ref (a 0)] [mO a G, [(a 1, aJ (cA 0) 325 M)], [(a 7, aJ (cA 0) 8 R)], [(a 8, aJ (cA 0) 9 N1)], [(a 5, aJ (cA 0) 49 D1)], [(a 6, aJ (cA 0) 490 B1)], [(a 9, aJ (cA 0) 8 BR)], [(a 10, aJ (cA 0) 40 X)], [(a 11, aJ (cA 0) 7 L1)], [(a 12, aJ (cA 0) 7 F1)], [(a 13, aJ (cA 0) 7 BY1)]] (fun z u => z = digS S (G 1) (G 0) ∧ RU G u.2.1 0) (fun u => [mO a u.2.1, [(a 1, aJ (cA 0) 325 M)], [(a 7, aJ (cA 0) 8 u.2.2.1)], [(a 8, aJ (cA 0) 9 u.2.2.2.1)], [(a 5, aJ (cA 0) 49 u.2.2.2.2.1)], [(a 6, aJ (cA 0) 490 u.2.2.2.2.2.1)], [(a 9, aJ (cA 0) 8 u.2.2.2.2.2.2)], [(a 10, aJ (cA 0) 40 u.1.1)], [(a 11, aJ (cA 0) 7 u.1.2.1)], [(a 12, aJ (cA 0) 7 u.1.2.2.1)], [(a 13, aJ (cA 0) 7 u.1.2.2.2)]]) := by
  refine m_startL pn_X6 rfl (List.forall_mem_cons.mpr ⟨rfl, fun _ h => absurd h List.not_mem_nil⟩) (Nat.le_of_ble_eq_true rfl) ?_
  intro K C e1 e2 e3 hin hR
  subst e1 e2 e3
  have hN := hI.2.1
  have hQ := hI.1
  have hM := Ag_h hAg hN.1
  have hM0 := hM.1
  have hM1 := hM.2.1
  show J K 0 0 [mO a G, [(a 1, aJ ((kC K) 0) 325 M)], [(a 7, aJ ((kC K) 0) 8 R)], [(a 8, aJ ((kC K) 0) 9 N1)], [(a 5, aJ ((kC K) 0) 49 D1)], [(a 6, aJ ((kC K) 0) 490 B1)], [(a 9, aJ ((kC K) 0) 8 BR)], [(a 10, aJ ((kC K) 0) 40 X)], [(a 11, aJ ((kC K) 0) 7 L1)], [(a 12, aJ ((kC K) 0) 7 F1)], [(a 13, aJ ((kC K) 0) 7 BY1)]] [some (.ref (a 0)), none, none, none, none] 0 []
  refine j_aload_n C dX6_digest_0 rfl ?_
  refine j_iconst C dX6_digest_1 ?_
  refine j_iconst C dX6_digest_2 ?_
  refine j_iconst C dX6_digest_3 ?_
  refine j_perm (pm_11_0 _ _ _ _ _ _ _ _ _ _ _) ?_
  refine j_callVi C (As := [.int (iI _), .int (iI _), .int (iI _)]) (c_X6_goes _ _ _ _ _ _ _ _ (by first | assumption | omega) (by first | assumption | omega) (by first | assumption | omega)) 3 nf_X6_goes (jb := 0) rfl rfl wL_X6_146 wI_X6_goes wSe_X6_X6_goes wIn_X6 wC_X6_goes rfl rfl (by decide) dX6_digest_4 (Nat.le_of_ble_eq_true rfl) ⟨Nat.le_of_ble_eq_true rfl, Nat.le_of_ble_eq_true rfl⟩ (fun x4 u4 h4 => ?_)
  refine j_perm (pr_11_0 _ _ _ _ _ _ _ _ _ _ _) ?_
  have q4 := goes3 h4
  refine j_pop C dX6_digest_7 rfl ?_
  refine j_ldc2 C 114731 (by decide) wN_X6_248 dX6_digest_8 ?_
  refine j_aload_n C dX6_digest_11 rfl ?_
  refine j_get C 0 0 5 rfl rfl rfl wU_X6 (by decide) wF_X6_207 rfl dX6_digest_12 ?_
  refine j_i2lN C dX6_digest_15 ?_
  refine j_ladd C dX6_digest_16 ?_
  refine j_lstn_1 C dX6_digest_17 rfl ?_
  refine j_iconst C dX6_digest_18 ?_
  refine j_istn_3 C dX6_digest_19 rfl ?_
  have L20 : ∀ (fuel : Nat) (h k : Int) (G5 R5 N5 D5 B5 : Int → Int) (hRU : RU G G5 0) (hk : 0 ≤ k ∧ k ≤ 11) (hh : h = hA (fun w => ndI (valS S w)) k.toNat (114731 + ndI (G 1))) (hf20 : (11 - k).toNat < fuel), J K 0 0 [mO a G5, [(a 1, aJ ((kC K) 0) 325 M)], [(a 7, aJ ((kC K) 0) 8 R5)], [(a 8, aJ ((kC K) 0) 9 N5)], [(a 5, aJ ((kC K) 0) 49 D5)], [(a 6, aJ ((kC K) 0) 490 B5)], [(a 9, aJ ((kC K) 0) 8 BR)], [(a 10, aJ ((kC K) 0) 40 X)], [(a 11, aJ ((kC K) 0) 7 L1)], [(a 12, aJ ((kC K) 0) 7 F1)], [(a 13, aJ ((kC K) 0) 7 BY1)]] [some (.ref (a 0)), some (.long (lI h)), none, some (.int (iI k)), none] 20 [] := by
    intro fuel
    induction fuel with
    | zero => intro h k G5 R5 N5 D5 B5 hRU hk hh hf20; exact absurd hf20 (Nat.not_lt_zero _)
    | succ fuel ih20 =>
      intro h k G5 R5 N5 D5 B5 hRU hk hh hf20
      refine j_iload_n C dX6_digest_20 rfl ?_
      refine j_bipush C dX6_digest_21 (by decide) ?_
      refine j_icmp_ge (tgt := 45) C dX6_digest_23 (by decide) (by omega) (by omega) (by omega) (by omega) (fun c23 => ?_) (fun c23 => ?_)
      · refine j_iconst C dX6_digest_45 ?_
        refine j_istn_3 C dX6_digest_46 rfl ?_
        have L47 : ∀ (fuel : Nat) (h i : Int) (hi : 0 ≤ i ∧ i ≤ 8 * S 1) (hh2 : h = hA (fun k => ndI (S (5 + k))) i.toNat (hA (fun w => ndI (valS S w)) 11 (114731 + ndI (G 1)))) (hf47 : (8 * S 1 - i).toNat < fuel), J K 0 0 [mO a G5, [(a 1, aJ ((kC K) 0) 325 M)], [(a 7, aJ ((kC K) 0) 8 R5)], [(a 8, aJ ((kC K) 0) 9 N5)], [(a 5, aJ ((kC K) 0) 49 D5)], [(a 6, aJ ((kC K) 0) 490 B5)], [(a 9, aJ ((kC K) 0) 8 BR)], [(a 10, aJ ((kC K) 0) 40 X)], [(a 11, aJ ((kC K) 0) 7 L1)], [(a 12, aJ ((kC K) 0) 7 F1)], [(a 13, aJ ((kC K) 0) 7 BY1)]] [some (.ref (a 0)), some (.long (lI h)), none, some (.int (iI i)), none] 47 [] := by
          intro fuel
          induction fuel with
          | zero => intro h i hi hh2 hf47; exact absurd hf47 (Nat.not_lt_zero _)
          | succ fuel ih47 =>
            intro h i hi hh2 hf47
            refine j_iload_n C dX6_digest_47 rfl ?_
            refine j_bipush C dX6_digest_48 (by decide) ?_
            refine j_aload_n C dX6_digest_50 rfl ?_
            refine j_get C 0 0 0 rfl rfl rfl wU_X6 (by decide) wF_X6_7 rfl dX6_digest_51 ?_
            refine j_iconst C dX6_digest_54 ?_
            refine j_iald C 1 0 rfl rfl dX6_digest_55 (by decide) (by omega) (by omega) ?_
            refine j_imul C dX6_digest_56 ?_
            refine j_icmp_ge (tgt := 82) C dX6_digest_57 (by decide) (by omega) (by omega) (by omega) (by omega) (fun c57 => ?_) (fun c57 => ?_)
            · refine j_iconst C dX6_digest_82 ?_
              refine j_istn_3 C dX6_digest_83 rfl ?_
              have L84 : ∀ (fuel : Nat) (h p : Int) (G5 R5 N5 D5 B5 : Int → Int) (hRU : RU G G5 0) (hp : 0 ≤ p ∧ p ≤ S 0) (hh4 : h = hP S p.toNat (hA (fun k => ndI (S (5 + k))) (8 * S 1).toNat (hA (fun w => ndI (valS S w)) 11 (114731 + ndI (G 1))))) (hf84 : (S 0 - p).toNat < fuel), J K 0 0 [mO a G5, [(a 1, aJ ((kC K) 0) 325 M)], [(a 7, aJ ((kC K) 0) 8 R5)], [(a 8, aJ ((kC K) 0) 9 N5)], [(a 5, aJ ((kC K) 0) 49 D5)], [(a 6, aJ ((kC K) 0) 490 B5)], [(a 9, aJ ((kC K) 0) 8 BR)], [(a 10, aJ ((kC K) 0) 40 X)], [(a 11, aJ ((kC K) 0) 7 L1)], [(a 12, aJ ((kC K) 0) 7 F1)], [(a 13, aJ ((kC K) 0) 7 BY1)]] [some (.ref (a 0)), some (.long (lI h)), none, some (.int (iI p)), none] 84 [] := by
                intro fuel
                induction fuel with
                | zero => intro h p G5 R5 N5 D5 B5 hRU hp hh4 hf84; exact absurd hf84 (Nat.not_lt_zero _)
                | succ fuel ih84 =>
                  intro h p G5 R5 N5 D5 B5 hRU hp hh4 hf84
                  refine j_iload_n C dX6_digest_84 rfl ?_
                  refine j_aload_n C dX6_digest_85 rfl ?_
                  refine j_get C 0 0 0 rfl rfl rfl wU_X6 (by decide) wF_X6_7 rfl dX6_digest_86 ?_
                  refine j_iconst C dX6_digest_89 ?_
                  refine j_iald C 1 0 rfl rfl dX6_digest_90 (by decide) (by omega) (by omega) ?_
                  refine j_icmp_ge (tgt := 148) C dX6_digest_91 (by decide) (by omega) (by omega) (by omega) (by omega) (fun c91 => ?_) (fun c91 => ?_)
                  · refine j_aload_n C dX6_digest_148 rfl ?_
                    refine j_aload_n C dX6_digest_149 rfl ?_
                    refine j_get C 0 0 0 rfl rfl rfl wU_X6 (by decide) wF_X6_7 rfl dX6_digest_150 ?_
                    refine j_perm (pm_11_0_1_2_3_4_5_6 _ _ _ _ _ _ _ _ _ _ _) ?_
                    refine j_callVi C (As := [.ref _]) (c_X6_findsBest _ _ _ _ _ _ _ _ _ _ _ _ (by exact Ag_Inv hI hAg)) 1 nf_X6_findsBest (jb := 0) rfl rfl wL_X6_138 wI_X6_findsBest wSe_X6_X6_findsBest wIn_X6 wC_X6_findsBest rfl rfl (by decide) dX6_digest_153 (Nat.le_of_ble_eq_true rfl) ⟨Nat.le_of_ble_eq_true rfl, Nat.le_of_ble_eq_true rfl⟩ (fun x153 u153 h153 => ?_)
                    refine j_perm (pr_11_0_1_2_3_4_5_6 _ _ _ _ _ _ _ _ _ _ _) ?_
                    obtain ⟨hk153, hb153, hd153, hx153, hn153⟩ := h153
                    rw [(best_ag hI hAg).1, (best_ag hI hAg).2] at hb153
                    rw [(best_ag hI hAg).1] at hx153
                    refine j_pop C dX6_digest_156 rfl ?_
                    refine j_ldc2 C 31 (by decide) wN_X6_250 dX6_digest_157 ?_
                    refine j_lload_n C dX6_digest_160 rfl ?_
                    refine j_lmul C dX6_digest_161 ?_
                    refine j_aload_n C dX6_digest_162 rfl ?_
                    refine j_get C 0 0 13 rfl rfl rfl wU_X6 (by decide) wF_X6_121 rfl dX6_digest_163 ?_
                    refine j_i2lN C dX6_digest_166 ?_
                    refine j_ladd C dX6_digest_167 ?_
                    refine j_lstn_1 C dX6_digest_168 rfl ?_
                    refine j_ldc2 C 31 (by decide) wN_X6_250 dX6_digest_169 ?_
                    refine j_lload_n C dX6_digest_172 rfl ?_
                    refine j_lmul C dX6_digest_173 ?_
                    refine j_aload_n C dX6_digest_174 rfl ?_
                    refine j_perm (pm_11_0_1_7_8_9_10 _ _ _ _ _ _ _ _ _ _ _) ?_
                    refine j_callVi C (As := []) (c_X6_leastOf _ _ _ _ _ _ _ _ _ _ (S) (by first | assumption | omega) (by first | assumption | omega)) 0 nf_X6_leastOf (jb := 0) rfl rfl wL_X6_204 wI_X6_leastOf wSe_X6_X6_leastOf wIn_X6 wC_X6_leastOf rfl rfl (by decide) dX6_digest_175 (Nat.le_of_ble_eq_true rfl) ⟨Nat.le_of_ble_eq_true rfl, Nat.le_of_ble_eq_true rfl⟩ (fun x175 u175 h175 => ?_)
                    refine j_perm (pr_11_0_1_7_8_9_10 _ _ _ _ _ _ _ _ _ _ _) ?_
                    refine j_i2lN C dX6_digest_178 ?_
                    refine j_ladd C dX6_digest_179 ?_
                    refine j_lstn_1 C dX6_digest_180 rfl ?_
                    refine j_ldc2 C 31 (by decide) wN_X6_250 dX6_digest_181 ?_
                    refine j_lload_n C dX6_digest_184 rfl ?_
                    refine j_lmul C dX6_digest_185 ?_
                    refine j_aload_n C dX6_digest_186 rfl ?_
                    refine j_get C 0 0 3 rfl rfl rfl wU_X6 (by decide) wF_X6_72 rfl dX6_digest_187 ?_
                    refine j_i2lN C dX6_digest_190 ?_
                    refine j_ladd C dX6_digest_191 ?_
                    refine hR (u175, u153.1, u153.2.1, u153.2.2.1, u153.2.2.2.1, u153.2.2.2.2.1, u153.2.2.2.2.2) dX6_digest_192 ?_ rfl (Nat.le_of_ble_eq_true rfl) (Nat.le_of_ble_eq_true rfl)
                    have hR9 := RU_KG hRU hk153
                    refine ⟨?_, hR9⟩
                    unfold digS
                    rw [h175, hb153.1, hR9.1, hh4, show p = S 0 by omega]
                  · refine j_ldc2 C 31 (by decide) wN_X6_250 dX6_digest_94 ?_
                    refine j_lload_n C dX6_digest_97 rfl ?_
                    refine j_lmul C dX6_digest_98 ?_
                    refine j_aload_n C dX6_digest_99 rfl ?_
                    refine j_iload_n C dX6_digest_100 rfl ?_
                    refine j_perm (pm_11_0_1 _ _ _ _ _ _ _ _ _ _ _) ?_
                    refine j_callVi C (As := [.int (iI _)]) (c_X6_netOf _ _ _ _ _ _ (S) _ (by first | assumption | omega) (by first | assumption | omega) (by first | assumption | omega)) 1 nf_X6_netOf (jb := 0) rfl rfl wL_X6_179 wI_X6_netOf wSe_X6_X6_netOf wIn_X6 wC_X6_netOf rfl rfl (by decide) dX6_digest_101 (Nat.le_of_ble_eq_true rfl) ⟨Nat.le_of_ble_eq_true rfl, Nat.le_of_ble_eq_true rfl⟩ (fun x101 u101 h101 => ?_)
                    refine j_perm (pr_11_0_1 _ _ _ _ _ _ _ _ _ _ _) ?_
                    refine j_i2lN C dX6_digest_104 ?_
                    refine j_ladd C dX6_digest_105 ?_
                    refine j_lstn_1 C dX6_digest_106 rfl ?_
                    refine j_iconst C dX6_digest_107 ?_
                    refine j_ist_4 C dX6_digest_108 rfl ?_
                    have L110 : ∀ (fuel : Nat) (h j : Int) (G5 R5 N5 D5 B5 : Int → Int) (hRU : RU G G5 0) (hj : 0 ≤ j ∧ j ≤ S 0) (hh5 : h = hA (fun j => ndI (debS S p j)) j.toNat (31 * hP S p.toNat (hA (fun k => ndI (S (5 + k))) (8 * S 1).toNat (hA (fun w => ndI (valS S w)) 11 (114731 + ndI (G 1)))) + ndI (netS S p))) (hf110 : (S 0 - j).toNat < fuel), J K 0 0 [mO a G5, [(a 1, aJ ((kC K) 0) 325 M)], [(a 7, aJ ((kC K) 0) 8 R5)], [(a 8, aJ ((kC K) 0) 9 N5)], [(a 5, aJ ((kC K) 0) 49 D5)], [(a 6, aJ ((kC K) 0) 490 B5)], [(a 9, aJ ((kC K) 0) 8 BR)], [(a 10, aJ ((kC K) 0) 40 X)], [(a 11, aJ ((kC K) 0) 7 L1)], [(a 12, aJ ((kC K) 0) 7 F1)], [(a 13, aJ ((kC K) 0) 7 BY1)]] [some (.ref (a 0)), some (.long (lI h)), none, some (.int (iI p)), some (.int (iI j))] 110 [] := by
                      intro fuel
                      induction fuel with
                      | zero => intro h j G5 R5 N5 D5 B5 hRU hj hh5 hf110; exact absurd hf110 (Nat.not_lt_zero _)
                      | succ fuel ih110 =>
                        intro h j G5 R5 N5 D5 B5 hRU hj hh5 hf110
                        refine j_iload C dX6_digest_110 rfl ?_
                        refine j_aload_n C dX6_digest_112 rfl ?_
                        refine j_get C 0 0 0 rfl rfl rfl wU_X6 (by decide) wF_X6_7 rfl dX6_digest_113 ?_
                        refine j_iconst C dX6_digest_116 ?_
                        refine j_iald C 1 0 rfl rfl dX6_digest_117 (by decide) (by omega) (by omega) ?_
                        refine j_icmp_ge (tgt := 142) C dX6_digest_118 (by decide) (by omega) (by omega) (by omega) (by omega) (fun c118 => ?_) (fun c118 => ?_)
                        · refine j_iinc_3 C dX6_digest_142 rfl ?_
                          refine j_goto (tgt := 84) C dX6_digest_145 (by decide) ?_
                          exact j_lle (lv' := [_, _, none, _, none]) ⟨Or.inr rfl, ⟨Or.inr rfl, ⟨Or.inl rfl, ⟨Or.inr rfl, ⟨Or.inl rfl, trivial⟩⟩⟩⟩⟩ (ih84 _ _ _ _ _ _ _ (by exact hRU) (by omega) (by rw [hh5, show j = S 0 by omega, hP_s hp.1]) (by omega))
                        · refine j_ldc2 C 31 (by decide) wN_X6_250 dX6_digest_121 ?_
                          refine j_lload_n C dX6_digest_124 rfl ?_
                          refine j_lmul C dX6_digest_125 ?_
                          refine j_aload_n C dX6_digest_126 rfl ?_
                          refine j_iload_n C dX6_digest_127 rfl ?_
                          refine j_iload C dX6_digest_128 rfl ?_
                          refine j_perm (pm_11_0_1_3_4_5 _ _ _ _ _ _ _ _ _ _ _) ?_
                          refine j_callVi C (As := [.int (iI _), .int (iI _)]) (c_X6_debtOf _ _ _ _ _ _ _ _ _ (S) _ _ (by first | assumption | omega) (by first | assumption | omega) (by first | assumption | omega) (by first | assumption | omega)) 2 nf_X6_debtOf (jb := 0) rfl rfl wL_X6_176 wI_X6_debtOf wSe_X6_X6_debtOf wIn_X6 wC_X6_debtOf rfl rfl (by decide) dX6_digest_130 (Nat.le_of_ble_eq_true rfl) ⟨Nat.le_of_ble_eq_true rfl, Nat.le_of_ble_eq_true rfl⟩ (fun x130 u130 h130 => ?_)
                          refine j_perm (pr_11_0_1_3_4_5 _ _ _ _ _ _ _ _ _ _ _) ?_
                          refine j_i2lN C dX6_digest_133 ?_
                          refine j_ladd C dX6_digest_134 ?_
                          refine j_lstn_1 C dX6_digest_135 rfl ?_
                          refine j_iinc_4 C dX6_digest_136 rfl ?_
                          refine j_goto (tgt := 110) C dX6_digest_139 (by decide) ?_
                          exact ih110 _ _ _ _ _ _ _ (by exact RU_KG hRU h130.2) (by omega) (by rw [hA_s hj.1, ← hh5, h130.1]) (by omega)
                    exact L110 _ _ _ _ _ _ _ _ (by exact hRU) (by omega) (by rw [← hh4, h101, show (0 : Int).toNat = 0 from rfl]; exact hA_0.symm) (Nat.lt_succ_self _)
              exact L84 _ _ _ _ _ _ _ _ (by exact hRU) (by omega) (by rw [hh2, show i = 8 * S 1 by omega, show (0 : Int).toNat = 0 from rfl]; exact hP_0.symm) (Nat.lt_succ_self _)
            · refine j_ldc2 C 31 (by decide) wN_X6_250 dX6_digest_60 ?_
              refine j_lload_n C dX6_digest_63 rfl ?_
              refine j_lmul C dX6_digest_64 ?_
              refine j_aload_n C dX6_digest_65 rfl ?_
              refine j_get C 0 0 0 rfl rfl rfl wU_X6 (by decide) wF_X6_7 rfl dX6_digest_66 ?_
              refine j_iconst C dX6_digest_69 ?_
              refine j_iload_n C dX6_digest_70 rfl ?_
              refine j_iadd C dX6_digest_71 ?_
              refine j_iald C 1 0 rfl rfl dX6_digest_72 (by decide) (by omega) (by omega) ?_
              refine j_i2lN C dX6_digest_73 ?_
              refine j_ladd C dX6_digest_74 ?_
              refine j_lstn_1 C dX6_digest_75 rfl ?_
              refine j_iinc_3 C dX6_digest_76 rfl ?_
              refine j_goto (tgt := 47) C dX6_digest_79 (by decide) ?_
              exact ih47 _ _ (by omega) (by rw [hA_s hi.1, ← hh2, hAg.1 (5 + i) (by omega) (by omega)]) (by omega)
        exact L47 _ _ _ (by omega) (by rw [hh, show k = 11 by omega, show (0 : Int).toNat = 0 from rfl, show (11 : Int).toNat = 11 from rfl]; exact hA_0.symm) (Nat.lt_succ_self _)
      · refine j_ldc2 C 31 (by decide) wN_X6_250 dX6_digest_26 ?_
        refine j_lload_n C dX6_digest_29 rfl ?_
        refine j_lmul C dX6_digest_30 ?_
        refine j_aload_n C dX6_digest_31 rfl ?_
        refine j_iload_n C dX6_digest_32 rfl ?_
        refine j_perm (pm_11_0_1_2_3_4_5 _ _ _ _ _ _ _ _ _ _ _) ?_
        refine j_callVi C (As := [.int (iI _)]) (c_X6_one _ _ _ _ _ _ _ _ _ _ (S) _ (by first | assumption | omega) (by first | assumption | omega) (by first | assumption | omega)) 1 nf_X6_one (jb := 0) rfl rfl wL_X6_185 wI_X6_one wSe_X6_X6_one wIn_X6 wC_X6_one rfl rfl (by decide) dX6_digest_33 (Nat.le_of_ble_eq_true rfl) ⟨Nat.le_of_ble_eq_true rfl, Nat.le_of_ble_eq_true rfl⟩ (fun x33 u33 h33 => ?_)
        refine j_perm (pr_11_0_1_2_3_4_5 _ _ _ _ _ _ _ _ _ _ _) ?_
        refine j_i2lN C dX6_digest_36 ?_
        refine j_ladd C dX6_digest_37 ?_
        refine j_lstn_1 C dX6_digest_38 rfl ?_
        refine j_iinc_3 C dX6_digest_39 rfl ?_
        refine j_goto (tgt := 20) C dX6_digest_42 (by decide) ?_
        exact ih20 _ _ _ _ _ _ _ (by exact RU_KG hRU h33.2) (by omega) (by rw [hA_s hk.1, ← hh, h33.1]) (by omega)
  exact L20 _ _ _ _ _ _ _ _ (by first | exact hRU | exact RU_of (by omega)) (by omega) (by rw [show (0 : Int).toNat = 0 from rfl, show st G 2 u4 1 = G 1 from st_n (by omega)]; exact hA_0.symm) (Nat.lt_succ_self _)
