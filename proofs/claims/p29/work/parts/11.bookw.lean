theorem pm_1 (B0 : va_W) : [B0].Perm ([] ++ [B0]) := List.Perm.refl _
theorem pr_1 (B0 : va_W) : ([] ++ [B0]).Perm [B0] := (pm_1 B0).symm
theorem pm_9_8_7_6_5_4_3_2_1_0 (B0 B1 B2 B3 B4 B5 B6 B7 B8 : va_W) : [B0, B1, B2, B3, B4, B5, B6, B7, B8].Perm ([B8, B7, B6, B5, B4, B3, B2, B1, B0] ++ []) := List.Perm.trans (List.perm_middle (l₁ := [B0, B1, B2, B3, B4, B5, B6, B7]) (a := B8) (l₂ := [])) (List.Perm.trans (List.Perm.cons _ (List.perm_middle (l₁ := [B0, B1, B2, B3, B4, B5, B6]) (a := B7) (l₂ := []))) (List.Perm.trans (List.Perm.cons _ (List.Perm.cons _ (List.perm_middle (l₁ := [B0, B1, B2, B3, B4, B5]) (a := B6) (l₂ := [])))) (List.Perm.trans (List.Perm.cons _ (List.Perm.cons _ (List.Perm.cons _ (List.perm_middle (l₁ := [B0, B1, B2, B3, B4]) (a := B5) (l₂ := []))))) (List.Perm.trans (List.Perm.cons _ (List.Perm.cons _ (List.Perm.cons _ (List.Perm.cons _ (List.perm_middle (l₁ := [B0, B1, B2, B3]) (a := B4) (l₂ := [])))))) (List.Perm.trans (List.Perm.cons _ (List.Perm.cons _ (List.Perm.cons _ (List.Perm.cons _ (List.Perm.cons _ (List.perm_middle (l₁ := [B0, B1, B2]) (a := B3) (l₂ := []))))))) (List.Perm.trans (List.Perm.cons _ (List.Perm.cons _ (List.Perm.cons _ (List.Perm.cons _ (List.Perm.cons _ (List.Perm.cons _ (List.perm_middle (l₁ := [B0, B1]) (a := B2) (l₂ := [])))))))) (List.Perm.trans (List.Perm.cons _ (List.Perm.cons _ (List.Perm.cons _ (List.Perm.cons _ (List.Perm.cons _ (List.Perm.cons _ (List.Perm.cons _ (List.perm_middle (l₁ := [B0]) (a := B1) (l₂ := []))))))))) (List.Perm.cons _ (List.Perm.cons _ (List.Perm.cons _ (List.Perm.cons _ (List.Perm.cons _ (List.Perm.cons _ (List.Perm.cons _ (List.Perm.cons _ (List.Perm.refl _))))))))))))))))
theorem pr_9_8_7_6_5_4_3_2_1_0 (B0 B1 B2 B3 B4 B5 B6 B7 B8 : va_W) : ([B8, B7, B6, B5, B4, B3, B2, B1, B0] ++ []).Perm [B0, B1, B2, B3, B4, B5, B6, B7, B8] := (pm_9_8_7_6_5_4_3_2_1_0 B0 B1 B2 B3 B4 B5 B6 B7 B8).symm
set_option maxHeartbeats 4000000 in
set_option maxRecDepth 100000 in
theorem c_X0_restart (l : Launch) (D : va_G) (cA : Nat → ClassId) (b : Nat → Nat) (S : Int → Int) (p : Int)  : MV (U := Unit) l yX0_restart cX0_restart 2 none (rmN 1 0 0) D cA [.ref (b 0), .int (iI p)] [bk cA b S] (fun _ => True) (fun _ => [bk cA b (rstP S p)]) := by
  refine m_startV pn_X0 rfl (List.forall_mem_cons.mpr ⟨rfl, List.forall_mem_cons.mpr ⟨rfl, fun _ h => absurd h List.not_mem_nil⟩⟩) (Nat.le_of_ble_eq_true rfl) ?_
  intro K C e1 e2 e3 hin hR
  subst e1 e2 e3
  show J K 0 0 [bk (kC K) b S] [some (.ref (b 0)), some (.int (iI p))] 0 []
  refine j_aload_n C dX0_restart_0 rfl ?_
  refine j_iload_n C dX0_restart_1 rfl ?_
  refine j_put_p0 C 0 0 rfl bk_put0 rfl wU_X0 tyX0_ok nmX0 (by decide) wF_X0_9 rfl rfl rfl (Nat.le_of_ble_eq_true rfl) dX0_restart_2 ?_
  refine j_aload_n C dX0_restart_5 rfl ?_
  refine j_iconst C dX0_restart_6 ?_
  refine j_put_p0 C 0 1 rfl bk_put1 rfl wU_X0 tyX0_ok nmX0 (by decide) wF_X0_41 rfl rfl rfl (Nat.le_of_ble_eq_true rfl) dX0_restart_7 ?_
  refine j_aload_n C dX0_restart_10 rfl ?_
  refine j_iconst C dX0_restart_11 ?_
  refine j_put_p0 C 0 2 rfl bk_put2 rfl wU_X0 tyX0_ok nmX0 (by decide) wF_X0_44 rfl rfl rfl (Nat.le_of_ble_eq_true rfl) dX0_restart_12 ?_
  refine j_aload_n C dX0_restart_15 rfl ?_
  refine j_iconst C dX0_restart_16 ?_
  refine j_put_p0 C 0 3 rfl bk_put3 rfl wU_X0 tyX0_ok nmX0 (by decide) wF_X0_47 rfl rfl rfl (Nat.le_of_ble_eq_true rfl) dX0_restart_17 ?_
  refine j_aload_n C dX0_restart_20 rfl ?_
  refine j_iconst C dX0_restart_21 ?_
  refine j_put_p0 C 0 4 rfl bk_put4 rfl wU_X0 tyX0_ok nmX0 (by decide) wF_X0_50 rfl rfl rfl (Nat.le_of_ble_eq_true rfl) dX0_restart_22 ?_
  exact hR () dX0_restart_25 (by first | trivial | omega | rfl) rfl (Nat.le_of_ble_eq_true rfl) (Nat.le_of_ble_eq_true rfl)
set_option maxHeartbeats 4000000 in
set_option maxRecDepth 100000 in
theorem c_X0_payPart (l : Launch) (D : va_G) (cA : Nat → ClassId) (b : Nat → Nat) (S : Int → Int) (i x : Int) (hN : 0 ≤ S 1 ∧ S 1 ≤ 40) (hi : 0 ≤ i ∧ i < S 1) : MV (U := Unit) l yX0_payPart cX0_payPart 3 none (rmN 2 0 0) D cA [.ref (b 0), .int (iI i), .int (iI x)] [bk cA b S] (fun _ => True) (fun _ => [bk cA b (payP S i x)]) := by
  refine m_startV pn_X0 rfl (List.forall_mem_cons.mpr ⟨rfl, List.forall_mem_cons.mpr ⟨rfl, List.forall_mem_cons.mpr ⟨rfl, fun _ h => absurd h List.not_mem_nil⟩⟩⟩) (Nat.le_of_ble_eq_true rfl) ?_
  intro K C e1 e2 e3 hin hR
  subst e1 e2 e3
  show J K 0 0 [bk (kC K) b S] [some (.ref (b 0)), some (.int (iI i)), some (.int (iI x))] 0 []
  refine j_aload_n C dX0_payPart_0 rfl ?_
  refine j_iload_n C dX0_payPart_1 rfl ?_
  refine j_perm (pm_1_0 _) ?_
  refine j_callVi C (As := [.int (iI _)]) (c_X0_holds _ _ _ _ _ _ (by first | assumption | omega) (by first | assumption | omega)) 1 nf_X0_holds (jb := 0) rfl rfl wL_X0_63 wI_X0_holds wSe_X0_X0_holds wIn_X0 wC_X0_holds rfl rfl (by decide) dX0_payPart_2 (Nat.le_of_ble_eq_true rfl) ⟨Nat.le_of_ble_eq_true rfl, Nat.le_of_ble_eq_true rfl⟩ (fun x2 u2 h2 => ?_)
  refine j_perm (pr_1_0 _) ?_
  refine j_if_eq (tgt := 38) C dX0_payPart_5 (by decide) (by omega) (by omega) (fun c5 => ?_) (fun c5 => ?_)
  · exact absurd c5 (by rw [h2, if_pos (by omega)]; decide)
  · refine j_aload_n C dX0_payPart_8 rfl ?_
    refine j_get C 0 0 7 rfl rfl rfl wU_X0 (by decide) wF_X0_22 rfl dX0_payPart_9 ?_
    refine j_iload_n C dX0_payPart_12 rfl ?_
    refine j_dup2 C dX0_payPart_13 rfl rfl ?_
    refine j_iald C 0 3 rfl rfl dX0_payPart_14 (by decide) (by omega) (by omega) ?_
    refine j_iload_n C dX0_payPart_15 rfl ?_
    refine j_isub C dX0_payPart_16 ?_
    refine j_iast_p0 C 3 rfl (bk_ast3 (by omega)) dX0_payPart_17 (by decide) (by omega) (by omega) ?_
    refine j_aload_n C dX0_payPart_18 rfl ?_
    refine j_get C 0 0 10 rfl rfl rfl wU_X0 (by decide) wF_X0_31 rfl dX0_payPart_19 ?_
    refine j_iload_n C dX0_payPart_22 rfl ?_
    refine j_dup2 C dX0_payPart_23 rfl rfl ?_
    refine j_iald C 0 6 rfl rfl dX0_payPart_24 (by decide) (by omega) (by omega) ?_
    refine j_iload_n C dX0_payPart_25 rfl ?_
    refine j_iadd C dX0_payPart_26 ?_
    refine j_iast_p0 C 6 rfl (bk_ast6 (by omega)) dX0_payPart_27 (by decide) (by omega) (by omega) ?_
    refine j_aload_n C dX0_payPart_28 rfl ?_
    refine j_dup C dX0_payPart_29 rfl ?_
    refine j_get C 0 0 2 rfl rfl rfl wU_X0 (by decide) wF_X0_44 rfl dX0_payPart_30 ?_
    refine j_iload_n C dX0_payPart_33 rfl ?_
    refine j_iadd C dX0_payPart_34 ?_
    refine j_put_p0 C 0 2 rfl bk_put2 rfl wU_X0 tyX0_ok nmX0 (by decide) wF_X0_44 rfl rfl rfl (Nat.le_of_ble_eq_true rfl) dX0_payPart_35 ?_
    exact hR () dX0_payPart_38 (by first | trivial | omega | rfl) rfl (Nat.le_of_ble_eq_true rfl) (Nat.le_of_ble_eq_true rfl)
set_option maxHeartbeats 4000000 in
set_option maxRecDepth 100000 in
theorem c_X0_releasePart (l : Launch) (D : va_G) (cA : Nat → ClassId) (b : Nat → Nat) (S : Int → Int) (i x : Int) (hN : 0 ≤ S 1 ∧ S 1 ≤ 40) (hi : 0 ≤ i ∧ i < S 1) : MV (U := Unit) l yX0_releasePart cX0_releasePart 3 none (rmN 2 0 0) D cA [.ref (b 0), .int (iI i), .int (iI x)] [bk cA b S] (fun _ => True) (fun _ => [bk cA b (relP S i x)]) := by
  refine m_startV pn_X0 rfl (List.forall_mem_cons.mpr ⟨rfl, List.forall_mem_cons.mpr ⟨rfl, List.forall_mem_cons.mpr ⟨rfl, fun _ h => absurd h List.not_mem_nil⟩⟩⟩) (Nat.le_of_ble_eq_true rfl) ?_
  intro K C e1 e2 e3 hin hR
  subst e1 e2 e3
  show J K 0 0 [bk (kC K) b S] [some (.ref (b 0)), some (.int (iI i)), some (.int (iI x))] 0 []
  refine j_aload_n C dX0_releasePart_0 rfl ?_
  refine j_iload_n C dX0_releasePart_1 rfl ?_
  refine j_perm (pm_1_0 _) ?_
  refine j_callVi C (As := [.int (iI _)]) (c_X0_holds _ _ _ _ _ _ (by first | assumption | omega) (by first | assumption | omega)) 1 nf_X0_holds (jb := 0) rfl rfl wL_X0_63 wI_X0_holds wSe_X0_X0_holds wIn_X0 wC_X0_holds rfl rfl (by decide) dX0_releasePart_2 (Nat.le_of_ble_eq_true rfl) ⟨Nat.le_of_ble_eq_true rfl, Nat.le_of_ble_eq_true rfl⟩ (fun x2 u2 h2 => ?_)
  refine j_perm (pr_1_0 _) ?_
  refine j_if_eq (tgt := 38) C dX0_releasePart_5 (by decide) (by omega) (by omega) (fun c5 => ?_) (fun c5 => ?_)
  · exact absurd c5 (by rw [h2, if_pos (by omega)]; decide)
  · refine j_aload_n C dX0_releasePart_8 rfl ?_
    refine j_get C 0 0 7 rfl rfl rfl wU_X0 (by decide) wF_X0_22 rfl dX0_releasePart_9 ?_
    refine j_iload_n C dX0_releasePart_12 rfl ?_
    refine j_dup2 C dX0_releasePart_13 rfl rfl ?_
    refine j_iald C 0 3 rfl rfl dX0_releasePart_14 (by decide) (by omega) (by omega) ?_
    refine j_iload_n C dX0_releasePart_15 rfl ?_
    refine j_isub C dX0_releasePart_16 ?_
    refine j_iast_p0 C 3 rfl (bk_ast3 (by omega)) dX0_releasePart_17 (by decide) (by omega) (by omega) ?_
    refine j_aload_n C dX0_releasePart_18 rfl ?_
    refine j_get C 0 0 11 rfl rfl rfl wU_X0 (by decide) wF_X0_34 rfl dX0_releasePart_19 ?_
    refine j_iload_n C dX0_releasePart_22 rfl ?_
    refine j_dup2 C dX0_releasePart_23 rfl rfl ?_
    refine j_iald C 0 7 rfl rfl dX0_releasePart_24 (by decide) (by omega) (by omega) ?_
    refine j_iload_n C dX0_releasePart_25 rfl ?_
    refine j_iadd C dX0_releasePart_26 ?_
    refine j_iast_p0 C 7 rfl (bk_ast7 (by omega)) dX0_releasePart_27 (by decide) (by omega) (by omega) ?_
    refine j_aload_n C dX0_releasePart_28 rfl ?_
    refine j_dup C dX0_releasePart_29 rfl ?_
    refine j_get C 0 0 3 rfl rfl rfl wU_X0 (by decide) wF_X0_47 rfl dX0_releasePart_30 ?_
    refine j_iload_n C dX0_releasePart_33 rfl ?_
    refine j_iadd C dX0_releasePart_34 ?_
    refine j_put_p0 C 0 3 rfl bk_put3 rfl wU_X0 tyX0_ok nmX0 (by decide) wF_X0_47 rfl rfl rfl (Nat.le_of_ble_eq_true rfl) dX0_releasePart_35 ?_
    exact hR () dX0_releasePart_38 (by first | trivial | omega | rfl) rfl (Nat.le_of_ble_eq_true rfl) (Nat.le_of_ble_eq_true rfl)
set_option maxHeartbeats 4000000 in
set_option maxRecDepth 100000 in
theorem c_X0_add (l : Launch) (D : va_G) (cA : Nat → ClassId) (b : Nat → Nat) (S : Int → Int) (a d x r : Int) (hN : 0 ≤ S 1 ∧ S 1 < 40) : MI (U := Unit) l yX0_add cX0_add 6 (some .int) (rmN 2 0 0) D cA [.ref (b 0), .int (iI a), .int (iI d), .int (iI x), .int (iI r)] [bk cA b S] (fun z _ => z = S 1) (fun _ => [bk cA b (addP S a d x r)]) := by
  refine m_startI pn_X0 rfl (List.forall_mem_cons.mpr ⟨rfl, List.forall_mem_cons.mpr ⟨rfl, List.forall_mem_cons.mpr ⟨rfl, List.forall_mem_cons.mpr ⟨rfl, List.forall_mem_cons.mpr ⟨rfl, fun _ h => absurd h List.not_mem_nil⟩⟩⟩⟩⟩) (Nat.le_of_ble_eq_true rfl) ?_
  intro K C e1 e2 e3 hin hR
  subst e1 e2 e3
  show J K 0 0 [bk (kC K) b S] [some (.ref (b 0)), some (.int (iI a)), some (.int (iI d)), some (.int (iI x)), some (.int (iI r)), none] 0 []
  refine j_aload_n C dX0_add_0 rfl ?_
  refine j_get C 0 0 1 rfl rfl rfl wU_X0 (by decide) wF_X0_41 rfl dX0_add_1 ?_
  refine j_ist_5 C dX0_add_4 rfl ?_
  refine j_iload C dX0_add_6 rfl ?_
  refine j_perm (pm_1 _) ?_
  refine j_callSNi C (As := [.int (iI _)]) (c_X5_isSlot _ _ _ _ (by first | assumption | omega)) 1 nf_X5_isSlot.2 wLN_X0_59 wS_X5_isSlot wIn_X5 wC_X5_isSlot rfl rfl (by decide) dX0_add_8 (Nat.le_of_ble_eq_true rfl) ⟨Nat.le_of_ble_eq_true rfl, Nat.le_of_ble_eq_true rfl⟩ (fun x8 u8 h8 => ?_)
  refine j_perm (pr_1 _) ?_
  refine j_if_ne (tgt := 16) C dX0_add_11 (by decide) (by omega) (by omega) (fun c11 => ?_) (fun c11 => ?_)
  · refine j_aload_n C dX0_add_16 rfl ?_
    refine j_get C 0 0 5 rfl rfl rfl wU_X0 (by decide) wF_X0_15 rfl dX0_add_17 ?_
    refine j_iload C dX0_add_20 rfl ?_
    refine j_iload_n C dX0_add_22 rfl ?_
    refine j_iast_p0 C 1 rfl (bk_ast1 (by omega)) dX0_add_23 (by decide) (by omega) (by omega) ?_
    refine j_aload_n C dX0_add_24 rfl ?_
    refine j_get C 0 0 6 rfl rfl rfl wU_X0 (by decide) wF_X0_19 rfl dX0_add_25 ?_
    refine j_iload C dX0_add_28 rfl ?_
    refine j_iload_n C dX0_add_30 rfl ?_
    refine j_iast_p0 C 2 rfl (bk_ast2 (by omega)) dX0_add_31 (by decide) (by omega) (by omega) ?_
    refine j_aload_n C dX0_add_32 rfl ?_
    refine j_get C 0 0 7 rfl rfl rfl wU_X0 (by decide) wF_X0_22 rfl dX0_add_33 ?_
    refine j_iload C dX0_add_36 rfl ?_
    refine j_iload_n C dX0_add_38 rfl ?_
    refine j_iast_p0 C 3 rfl (bk_ast3 (by omega)) dX0_add_39 (by decide) (by omega) (by omega) ?_
    refine j_aload_n C dX0_add_40 rfl ?_
    refine j_get C 0 0 8 rfl rfl rfl wU_X0 (by decide) wF_X0_25 rfl dX0_add_41 ?_
    refine j_iload C dX0_add_44 rfl ?_
    refine j_iload C dX0_add_46 rfl ?_
    refine j_iast_p0 C 4 rfl (bk_ast4 (by omega)) dX0_add_48 (by decide) (by omega) (by omega) ?_
    refine j_aload_n C dX0_add_49 rfl ?_
    refine j_get C 0 0 9 rfl rfl rfl wU_X0 (by decide) wF_X0_28 rfl dX0_add_50 ?_
    refine j_iload C dX0_add_53 rfl ?_
    refine j_iload_n C dX0_add_55 rfl ?_
    refine j_iast_p0 C 5 rfl (bk_ast5 (by omega)) dX0_add_56 (by decide) (by omega) (by omega) ?_
    refine j_aload_n C dX0_add_57 rfl ?_
    refine j_get C 0 0 10 rfl rfl rfl wU_X0 (by decide) wF_X0_31 rfl dX0_add_58 ?_
    refine j_iload C dX0_add_61 rfl ?_
    refine j_iconst C dX0_add_63 ?_
    refine j_iast_p0 C 6 rfl (bk_ast6 (by omega)) dX0_add_64 (by decide) (by omega) (by omega) ?_
    refine j_aload_n C dX0_add_65 rfl ?_
    refine j_get C 0 0 11 rfl rfl rfl wU_X0 (by decide) wF_X0_34 rfl dX0_add_66 ?_
    refine j_iload C dX0_add_69 rfl ?_
    refine j_iconst C dX0_add_71 ?_
    refine j_iast_p0 C 7 rfl (bk_ast7 (by omega)) dX0_add_72 (by decide) (by omega) (by omega) ?_
    refine j_aload_n C dX0_add_73 rfl ?_
    refine j_get C 0 0 12 rfl rfl rfl wU_X0 (by decide) wF_X0_37 rfl dX0_add_74 ?_
    refine j_iload C dX0_add_77 rfl ?_
    refine j_iconst C dX0_add_79 ?_
    refine j_zast_p0 C 8 rfl (bk_ast8 (by omega)) dX0_add_80 (by decide) (by omega) (by omega) (by omega) ?_
    refine j_aload_n C dX0_add_81 rfl ?_
    refine j_dup C dX0_add_82 rfl ?_
    refine j_get C 0 0 1 rfl rfl rfl wU_X0 (by decide) wF_X0_41 rfl dX0_add_83 ?_
    refine j_iconst C dX0_add_86 ?_
    refine j_iadd C dX0_add_87 ?_
    refine j_put_p0 C 0 1 rfl bk_put1 rfl wU_X0 tyX0_ok nmX0 (by decide) wF_X0_41 rfl rfl rfl (Nat.le_of_ble_eq_true rfl) dX0_add_88 ?_
    refine j_iload C dX0_add_91 rfl ?_
    exact hR () dX0_add_93 (by rfl) rfl (Nat.le_of_ble_eq_true rfl) (Nat.le_of_ble_eq_true rfl)
  · exact absurd c11 (by rw [h8, if_pos (by omega)]; decide)
set_option maxHeartbeats 4000000 in
set_option maxRecDepth 100000 in
theorem c_X0_copyFrom (l : Launch) (D : va_G) (cA : Nat → ClassId) (b o : Nat → Nat) (S T : Int → Int) (hz : Inz T) : MV (U := Unit) l yX0_copyFrom cX0_copyFrom 3 none (rmN 1 0 0) D cA [.ref (b 0), .ref (o 0)] [bk cA b S, bk cA o T] (fun _ => True) (fun _ => [bk cA b (cpS S T), bk cA o T]) := by
  refine m_startV pn_X0 rfl (List.forall_mem_cons.mpr ⟨rfl, List.forall_mem_cons.mpr ⟨rfl, fun _ h => absurd h List.not_mem_nil⟩⟩) (Nat.le_of_ble_eq_true rfl) ?_
  intro K C e1 e2 e3 hin hR
  subst e1 e2 e3
  show J K 0 0 [bkR (kC K) b (S 0) (S 1) (S 2) (S 3) (S 4) (fr S) (tO S) (am S) (ra S) (fi S) (pa S) (re S) (di S), bk (kC K) o T] [some (.ref (b 0)), some (.ref (o 0)), none] 0 []
  refine j_aload_n C dX0_copyFrom_0 rfl ?_
  refine j_aload_n C dX0_copyFrom_1 rfl ?_
  refine j_get C 1 0 0 rfl rfl rfl wU_X0 (by decide) wF_X0_9 rfl dX0_copyFrom_2 ?_
  refine j_put_p0 C 0 0 rfl bkR_put0 rfl wU_X0 tyX0_ok nmX0 (by decide) wF_X0_9 rfl rfl rfl (Nat.le_of_ble_eq_true rfl) dX0_copyFrom_5 ?_
  refine j_aload_n C dX0_copyFrom_8 rfl ?_
  refine j_aload_n C dX0_copyFrom_9 rfl ?_
  refine j_get C 1 0 1 rfl rfl rfl wU_X0 (by decide) wF_X0_41 rfl dX0_copyFrom_10 ?_
  refine j_put_p0 C 0 1 rfl bkR_put1 rfl wU_X0 tyX0_ok nmX0 (by decide) wF_X0_41 rfl rfl rfl (Nat.le_of_ble_eq_true rfl) dX0_copyFrom_13 ?_
  refine j_aload_n C dX0_copyFrom_16 rfl ?_
  refine j_aload_n C dX0_copyFrom_17 rfl ?_
  refine j_get C 1 0 2 rfl rfl rfl wU_X0 (by decide) wF_X0_44 rfl dX0_copyFrom_18 ?_
  refine j_put_p0 C 0 2 rfl bkR_put2 rfl wU_X0 tyX0_ok nmX0 (by decide) wF_X0_44 rfl rfl rfl (Nat.le_of_ble_eq_true rfl) dX0_copyFrom_21 ?_
  refine j_aload_n C dX0_copyFrom_24 rfl ?_
  refine j_aload_n C dX0_copyFrom_25 rfl ?_
  refine j_get C 1 0 3 rfl rfl rfl wU_X0 (by decide) wF_X0_47 rfl dX0_copyFrom_26 ?_
  refine j_put_p0 C 0 3 rfl bkR_put3 rfl wU_X0 tyX0_ok nmX0 (by decide) wF_X0_47 rfl rfl rfl (Nat.le_of_ble_eq_true rfl) dX0_copyFrom_29 ?_
  refine j_aload_n C dX0_copyFrom_32 rfl ?_
  refine j_aload_n C dX0_copyFrom_33 rfl ?_
  refine j_get C 1 0 4 rfl rfl rfl wU_X0 (by decide) wF_X0_50 rfl dX0_copyFrom_34 ?_
  refine j_put_p0 C 0 4 rfl bkR_put4 rfl wU_X0 tyX0_ok nmX0 (by decide) wF_X0_50 rfl rfl rfl (Nat.le_of_ble_eq_true rfl) dX0_copyFrom_37 ?_
  refine j_aload_n C dX0_copyFrom_40 rfl ?_
  refine j_get C 1 0 5 rfl rfl rfl wU_X0 (by decide) wF_X0_15 rfl dX0_copyFrom_41 ?_
  refine j_iconst C dX0_copyFrom_44 ?_
  refine j_aload_n C dX0_copyFrom_45 rfl ?_
  refine j_get C 0 0 5 rfl rfl rfl wU_X0 (by decide) wF_X0_15 rfl dX0_copyFrom_46 ?_
  refine j_iconst C dX0_copyFrom_49 ?_
  refine j_bipush C dX0_copyFrom_50 (by decide) ?_
  refine j_acopy_p0 C 1 1 1 40 rfl rfl rfl bkR_ast1 rfl (by decide) rfl wL_X0_53 ⟨by decide, Nat.le_of_ble_eq_true rfl⟩ dX0_copyFrom_52 ?_
  refine j_aload_n C dX0_copyFrom_55 rfl ?_
  refine j_get C 1 0 6 rfl rfl rfl wU_X0 (by decide) wF_X0_19 rfl dX0_copyFrom_56 ?_
  refine j_iconst C dX0_copyFrom_59 ?_
  refine j_aload_n C dX0_copyFrom_60 rfl ?_
  refine j_get C 0 0 6 rfl rfl rfl wU_X0 (by decide) wF_X0_19 rfl dX0_copyFrom_61 ?_
  refine j_iconst C dX0_copyFrom_64 ?_
  refine j_bipush C dX0_copyFrom_65 (by decide) ?_
  refine j_acopy_p0 C 1 2 2 40 rfl rfl rfl bkR_ast2 rfl (by decide) rfl wL_X0_53 ⟨by decide, Nat.le_of_ble_eq_true rfl⟩ dX0_copyFrom_67 ?_
  refine j_aload_n C dX0_copyFrom_70 rfl ?_
  refine j_get C 1 0 7 rfl rfl rfl wU_X0 (by decide) wF_X0_22 rfl dX0_copyFrom_71 ?_
  refine j_iconst C dX0_copyFrom_74 ?_
  refine j_aload_n C dX0_copyFrom_75 rfl ?_
  refine j_get C 0 0 7 rfl rfl rfl wU_X0 (by decide) wF_X0_22 rfl dX0_copyFrom_76 ?_
  refine j_iconst C dX0_copyFrom_79 ?_
  refine j_bipush C dX0_copyFrom_80 (by decide) ?_
  refine j_acopy_p0 C 1 3 3 40 rfl rfl rfl bkR_ast3 rfl (by decide) rfl wL_X0_53 ⟨by decide, Nat.le_of_ble_eq_true rfl⟩ dX0_copyFrom_82 ?_
  refine j_aload_n C dX0_copyFrom_85 rfl ?_
  refine j_get C 1 0 8 rfl rfl rfl wU_X0 (by decide) wF_X0_25 rfl dX0_copyFrom_86 ?_
  refine j_iconst C dX0_copyFrom_89 ?_
  refine j_aload_n C dX0_copyFrom_90 rfl ?_
  refine j_get C 0 0 8 rfl rfl rfl wU_X0 (by decide) wF_X0_25 rfl dX0_copyFrom_91 ?_
  refine j_iconst C dX0_copyFrom_94 ?_
  refine j_bipush C dX0_copyFrom_95 (by decide) ?_
  refine j_acopy_p0 C 1 4 4 40 rfl rfl rfl bkR_ast4 rfl (by decide) rfl wL_X0_53 ⟨by decide, Nat.le_of_ble_eq_true rfl⟩ dX0_copyFrom_97 ?_
  refine j_aload_n C dX0_copyFrom_100 rfl ?_
  refine j_get C 1 0 9 rfl rfl rfl wU_X0 (by decide) wF_X0_28 rfl dX0_copyFrom_101 ?_
  refine j_iconst C dX0_copyFrom_104 ?_
  refine j_aload_n C dX0_copyFrom_105 rfl ?_
  refine j_get C 0 0 9 rfl rfl rfl wU_X0 (by decide) wF_X0_28 rfl dX0_copyFrom_106 ?_
  refine j_iconst C dX0_copyFrom_109 ?_
  refine j_bipush C dX0_copyFrom_110 (by decide) ?_
  refine j_acopy_p0 C 1 5 5 40 rfl rfl rfl bkR_ast5 rfl (by decide) rfl wL_X0_53 ⟨by decide, Nat.le_of_ble_eq_true rfl⟩ dX0_copyFrom_112 ?_
  refine j_aload_n C dX0_copyFrom_115 rfl ?_
  refine j_get C 1 0 10 rfl rfl rfl wU_X0 (by decide) wF_X0_31 rfl dX0_copyFrom_116 ?_
  refine j_iconst C dX0_copyFrom_119 ?_
  refine j_aload_n C dX0_copyFrom_120 rfl ?_
  refine j_get C 0 0 10 rfl rfl rfl wU_X0 (by decide) wF_X0_31 rfl dX0_copyFrom_121 ?_
  refine j_iconst C dX0_copyFrom_124 ?_
  refine j_bipush C dX0_copyFrom_125 (by decide) ?_
  refine j_acopy_p0 C 1 6 6 40 rfl rfl rfl bkR_ast6 rfl (by decide) rfl wL_X0_53 ⟨by decide, Nat.le_of_ble_eq_true rfl⟩ dX0_copyFrom_127 ?_
  refine j_aload_n C dX0_copyFrom_130 rfl ?_
  refine j_get C 1 0 11 rfl rfl rfl wU_X0 (by decide) wF_X0_34 rfl dX0_copyFrom_131 ?_
  refine j_iconst C dX0_copyFrom_134 ?_
  refine j_aload_n C dX0_copyFrom_135 rfl ?_
  refine j_get C 0 0 11 rfl rfl rfl wU_X0 (by decide) wF_X0_34 rfl dX0_copyFrom_136 ?_
  refine j_iconst C dX0_copyFrom_139 ?_
  refine j_bipush C dX0_copyFrom_140 (by decide) ?_
  refine j_acopy_p0 C 1 7 7 40 rfl rfl rfl bkR_ast7 rfl (by decide) rfl wL_X0_53 ⟨by decide, Nat.le_of_ble_eq_true rfl⟩ dX0_copyFrom_142 ?_
  refine j_iconst C dX0_copyFrom_145 ?_
  refine j_istn_2 C dX0_copyFrom_146 rfl ?_
  have L147 : ∀ (fuel : Nat) (i : Int) (X : Int → Int) (hi : 0 ≤ i ∧ i ≤ 40) (hX : X = cpf i (di T) (di S)) (hf147 : (40 - i).toNat < fuel), J K 0 0 [bkR (kC K) b (T 0) (T 1) (T 2) (T 3) (T 4) (cpf 40 (fr T) (fr S)) (cpf 40 (tO T) (tO S)) (cpf 40 (am T) (am S)) (cpf 40 (ra T) (ra S)) (cpf 40 (fi T) (fi S)) (cpf 40 (pa T) (pa S)) (cpf 40 (re T) (re S)) X, bk (kC K) o T] [some (.ref (b 0)), some (.ref (o 0)), some (.int (iI i))] 147 [] := by
    intro fuel
    induction fuel with
    | zero => intro i X hi hX hf147; exact absurd hf147 (Nat.not_lt_zero _)
    | succ fuel ih147 =>
      intro i X hi hX hf147
      refine j_iload_n C dX0_copyFrom_147 rfl ?_
      refine j_bipush C dX0_copyFrom_148 (by decide) ?_
      refine j_icmp_ge (tgt := 171) C dX0_copyFrom_150 (by decide) (by omega) (by omega) (by omega) (by omega) (fun c150 => ?_) (fun c150 => ?_)
      · have e : i = 40 := by omega
        subst e
        subst hX
        rw [bkR_cp]
        exact hR () dX0_copyFrom_171 (by first | trivial | omega | rfl) rfl (Nat.le_of_ble_eq_true rfl) (Nat.le_of_ble_eq_true rfl)
      · refine j_aload_n C dX0_copyFrom_153 rfl ?_
        refine j_get C 0 0 12 rfl rfl rfl wU_X0 (by decide) wF_X0_37 rfl dX0_copyFrom_154 ?_
        refine j_iload_n C dX0_copyFrom_157 rfl ?_
        refine j_aload_n C dX0_copyFrom_158 rfl ?_
        refine j_get C 1 0 12 rfl rfl rfl wU_X0 (by decide) wF_X0_37 rfl dX0_copyFrom_159 ?_
        refine j_iload_n C dX0_copyFrom_162 rfl ?_
        refine j_zald C 1 8 rfl rfl dX0_copyFrom_163 (by decide) (by omega) (by omega) ?_
        refine j_zast_p0 C 8 rfl bkR_ast8 dX0_copyFrom_164 (by decide) (by omega) (by omega) (by exact hz i hi.1 (by omega)) ?_
        refine j_iinc_2 C dX0_copyFrom_165 rfl ?_
        refine j_goto (tgt := 147) C dX0_copyFrom_168 (by decide) ?_
        exact ih147 _ _ (by omega) (by rw [hX]; exact cpf_st hi.1 rfl) (by omega)
  exact L147 _ _ _ (by omega) (by exact cpf_0.symm) (Nat.lt_succ_self _)
set_option maxHeartbeats 4000000 in
set_option maxRecDepth 100000 in
theorem c_X0_init (l : Launch) (D : va_G) (cA : Nat → ClassId) (q : Nat)  : MV (U := Nat → Nat) l yX0_init cX0_init 1 none (rmN 1 8 320) D cA [.ref (q)] [[(q, .inr (0, [.int 0, .int 0, .int 0, .int 0, .int 0, .null, .null, .null, .null, .null, .null, .null, .null]))]] (fun b => b 0 = q) (fun b => [bk cA b iniS]) := by
  refine m_startV pn_X0 rfl (List.forall_mem_cons.mpr ⟨rfl, fun _ h => absurd h List.not_mem_nil⟩) (Nat.le_of_ble_eq_true rfl) ?_
  intro K C e1 e2 e3 hin hR
  subst e1 e2 e3
  show J K 0 0 [[(q, .inr (0, [.int 0, .int 0, .int 0, .int 0, .int 0, .null, .null, .null, .null, .null, .null, .null, .null]))]] [some (.ref (q))] 0 []
  refine j_aload_n C dX0_init_0 rfl ?_
  refine j_objInit C rfl wL_X0_3 dX0_init_1 ⟨by decide, Nat.le_of_ble_eq_true rfl⟩ ?_
  refine j_aload_n C dX0_init_4 rfl ?_
  refine j_iconst C dX0_init_5 ?_
  refine j_put_p0 C 0 0 (B' := [(q, .inr (0, [.int (iI 4), .int 0, .int 0, .int 0, .int 0, .null, .null, .null, .null, .null, .null, .null, .null]))]) rfl rfl rfl wU_X0 tyX0_ok nmX0 (by decide) wF_X0_9 rfl rfl rfl (Nat.le_of_ble_eq_true rfl) dX0_init_6 ?_
  refine j_aload_n C dX0_init_9 rfl ?_
  refine j_bipush C dX0_init_10 (by decide) ?_
  refine j_newi C 40 (by decide) (by decide) wA__int (by decide) dX0_init_12 (fun q1 => ?_)
  refine j_putF_p1 C hin 0 5 (B' := [(q, .inr (0, [.int (iI 4), .int 0, .int 0, .int 0, .int 0, .ref q1, .null, .null, .null, .null, .null, .null, .null]))]) rfl rfl rfl wU_X0 tyX0_ok nmX0 (by decide) wF_X0_15 rfl rfl rfl rfl (Nat.le_of_ble_eq_true rfl) dX0_init_14 ?_
  refine j_aload_n C dX0_init_17 rfl ?_
  refine j_bipush C dX0_init_18 (by decide) ?_
  refine j_newi C 40 (by decide) (by decide) wA__int (by decide) dX0_init_20 (fun q2 => ?_)
  refine j_putF_p2 C hin 0 6 (B' := [(q, .inr (0, [.int (iI 4), .int 0, .int 0, .int 0, .int 0, .ref q1, .ref q2, .null, .null, .null, .null, .null, .null]))]) rfl rfl rfl wU_X0 tyX0_ok nmX0 (by decide) wF_X0_19 rfl rfl rfl rfl (Nat.le_of_ble_eq_true rfl) dX0_init_22 ?_
  refine j_aload_n C dX0_init_25 rfl ?_
  refine j_bipush C dX0_init_26 (by decide) ?_
  refine j_newi C 40 (by decide) (by decide) wA__int (by decide) dX0_init_28 (fun q3 => ?_)
  refine j_putF_p3 C hin 0 7 (B' := [(q, .inr (0, [.int (iI 4), .int 0, .int 0, .int 0, .int 0, .ref q1, .ref q2, .ref q3, .null, .null, .null, .null, .null]))]) rfl rfl rfl wU_X0 tyX0_ok nmX0 (by decide) wF_X0_22 rfl rfl rfl rfl (Nat.le_of_ble_eq_true rfl) dX0_init_30 ?_
  refine j_aload_n C dX0_init_33 rfl ?_
  refine j_bipush C dX0_init_34 (by decide) ?_
  refine j_newi C 40 (by decide) (by decide) wA__int (by decide) dX0_init_36 (fun q4 => ?_)
  refine j_putF_p4 C hin 0 8 (B' := [(q, .inr (0, [.int (iI 4), .int 0, .int 0, .int 0, .int 0, .ref q1, .ref q2, .ref q3, .ref q4, .null, .null, .null, .null]))]) rfl rfl rfl wU_X0 tyX0_ok nmX0 (by decide) wF_X0_25 rfl rfl rfl rfl (Nat.le_of_ble_eq_true rfl) dX0_init_38 ?_
  refine j_aload_n C dX0_init_41 rfl ?_
  refine j_bipush C dX0_init_42 (by decide) ?_
  refine j_newi C 40 (by decide) (by decide) wA__int (by decide) dX0_init_44 (fun q5 => ?_)
  refine j_putF_p5 C hin 0 9 (B' := [(q, .inr (0, [.int (iI 4), .int 0, .int 0, .int 0, .int 0, .ref q1, .ref q2, .ref q3, .ref q4, .ref q5, .null, .null, .null]))]) rfl rfl rfl wU_X0 tyX0_ok nmX0 (by decide) wF_X0_28 rfl rfl rfl rfl (Nat.le_of_ble_eq_true rfl) dX0_init_46 ?_
  refine j_aload_n C dX0_init_49 rfl ?_
  refine j_bipush C dX0_init_50 (by decide) ?_
  refine j_newi C 40 (by decide) (by decide) wA__int (by decide) dX0_init_52 (fun q6 => ?_)
  refine j_putF_p6 C hin 0 10 (B' := [(q, .inr (0, [.int (iI 4), .int 0, .int 0, .int 0, .int 0, .ref q1, .ref q2, .ref q3, .ref q4, .ref q5, .ref q6, .null, .null]))]) rfl rfl rfl wU_X0 tyX0_ok nmX0 (by decide) wF_X0_31 rfl rfl rfl rfl (Nat.le_of_ble_eq_true rfl) dX0_init_54 ?_
  refine j_aload_n C dX0_init_57 rfl ?_
  refine j_bipush C dX0_init_58 (by decide) ?_
  refine j_newi C 40 (by decide) (by decide) wA__int (by decide) dX0_init_60 (fun q7 => ?_)
  refine j_putF_p7 C hin 0 11 (B' := [(q, .inr (0, [.int (iI 4), .int 0, .int 0, .int 0, .int 0, .ref q1, .ref q2, .ref q3, .ref q4, .ref q5, .ref q6, .ref q7, .null]))]) rfl rfl rfl wU_X0 tyX0_ok nmX0 (by decide) wF_X0_34 rfl rfl rfl rfl (Nat.le_of_ble_eq_true rfl) dX0_init_62 ?_
  refine j_aload_n C dX0_init_65 rfl ?_
  refine j_bipush C dX0_init_66 (by decide) ?_
  refine j_newz C 40 (by decide) (by decide) wA__boolean (by decide) dX0_init_68 (fun q8 => ?_)
  refine j_putF_p8 C hin 0 12 (B' := [(q, .inr (0, [.int (iI 4), .int 0, .int 0, .int 0, .int 0, .ref q1, .ref q2, .ref q3, .ref q4, .ref q5, .ref q6, .ref q7, .ref q8]))]) rfl rfl rfl wU_X0 tyX0_ok nmX0 (by decide) wF_X0_37 rfl rfl rfl rfl (Nat.le_of_ble_eq_true rfl) dX0_init_70 ?_
  refine j_perm (pm_9_8_7_6_5_4_3_2_1_0 _ _ _ _ _ _ _ _ _) ?_
  refine j_flat (ws' := [bkR (kC K) (ad9 q q1 q2 q3 q4 q5 q6 q7 q8) 4 0 0 0 0 (fun _ => 0) (fun _ => 0) (fun _ => 0) (fun _ => 0) (fun _ => 0) (fun _ => 0) (fun _ => 0) (fun _ => 0)]) rfl ?_
  rw [bkR_ini]
  exact hR (ad9 q q1 q2 q3 q4 q5 q6 q7 q8) dX0_init_73 (by rfl) rfl (Nat.le_of_ble_eq_true rfl) (Nat.le_of_ble_eq_true rfl)
