/-! the class: what is done and not refused -/
theorem Inv_di {S : Int → Int} {i w : Int} (hI : Inv S) (hi : 0 ≤ i) (hw : w = 0 ∨ w = 1) : Inv (st S (9 + 8 * i) w) := by
  have e : ∀ j : Int, (∀ k : Int, j ≠ 9 + 8 * k ∨ k < 0) → st S (9 + 8 * i) w j = S j := fun j h => st_n (by have := h i; omega)
  have e0 : st S (9 + 8 * i) w 0 = S 0 := st_n (by omega)
  have e1 : st S (9 + 8 * i) w 1 = S 1 := st_n (by omega)
  refine ⟨by rw [e0]; exact hI.1, by rw [e1]; exact hI.2.1, fun k h0 h1 => ?_⟩
  rw [e1] at h1
  have f := hI.2.2 k h0 h1
  have a1 : fr (st S (9 + 8 * i) w) k = fr S k := st_n (by omega)
  have a2 : tO (st S (9 + 8 * i) w) k = tO S k := st_n (by omega)
  have a3 : am (st S (9 + 8 * i) w) k = am S k := st_n (by omega)
  have a4 : ra (st S (9 + 8 * i) w) k = ra S k := st_n (by omega)
  have a5 : di (st S (9 + 8 * i) w) k = di S k ∨ di (st S (9 + 8 * i) w) k = w := by
    by_cases c : k = i
    · right
      rw [c]
      exact st_s _ _ _
    · left
      exact st_n (by omega)
  rw [a1, a2, a3, a4, e0]
  exact ⟨f.1, f.2.1, f.2.2.1, f.2.2.2.1, f.2.2.2.2.1, by omega⟩
theorem pm_6_5_3 (B0 B1 B2 B3 B4 B5 : va_W) : [B0, B1, B2, B3, B4, B5].Perm ([B5, B3] ++ [B0, B1, B2, B4]) := List.Perm.trans (List.perm_middle (l₁ := [B0, B1, B2, B3, B4]) (a := B5) (l₂ := [])) (List.Perm.cons _ (List.perm_middle (l₁ := [B0, B1, B2]) (a := B3) (l₂ := [B4])))
theorem pr_6_5_3 (B0 B1 B2 B3 B4 B5 : va_W) : ([B5, B3] ++ [B0, B1, B2, B4]).Perm [B0, B1, B2, B3, B4, B5] := (pm_6_5_3 B0 B1 B2 B3 B4 B5).symm
theorem pm_8_1_2_3_4_5_6 (B0 B1 B2 B3 B4 B5 B6 B7 : va_W) : [B0, B1, B2, B3, B4, B5, B6, B7].Perm ([B1, B2, B3, B4, B5, B6] ++ [B0, B7]) := List.Perm.trans (List.perm_middle (l₁ := [B0]) (a := B1) (l₂ := [B2, B3, B4, B5, B6, B7])) (List.Perm.trans (List.Perm.cons _ (List.perm_middle (l₁ := [B0]) (a := B2) (l₂ := [B3, B4, B5, B6, B7]))) (List.Perm.trans (List.Perm.cons _ (List.Perm.cons _ (List.perm_middle (l₁ := [B0]) (a := B3) (l₂ := [B4, B5, B6, B7])))) (List.Perm.trans (List.Perm.cons _ (List.Perm.cons _ (List.Perm.cons _ (List.perm_middle (l₁ := [B0]) (a := B4) (l₂ := [B5, B6, B7]))))) (List.Perm.trans (List.Perm.cons _ (List.Perm.cons _ (List.Perm.cons _ (List.Perm.cons _ (List.perm_middle (l₁ := [B0]) (a := B5) (l₂ := [B6, B7])))))) (List.Perm.cons _ (List.Perm.cons _ (List.Perm.cons _ (List.Perm.cons _ (List.Perm.cons _ (List.perm_middle (l₁ := [B0]) (a := B6) (l₂ := [B7])))))))))))
theorem pr_8_1_2_3_4_5_6 (B0 B1 B2 B3 B4 B5 B6 B7 : va_W) : ([B1, B2, B3, B4, B5, B6] ++ [B0, B7]).Perm [B0, B1, B2, B3, B4, B5, B6, B7] := (pm_8_1_2_3_4_5_6 B0 B1 B2 B3 B4 B5 B6 B7).symm
theorem pm_8_1_6 (B0 B1 B2 B3 B4 B5 B6 B7 : va_W) : [B0, B1, B2, B3, B4, B5, B6, B7].Perm ([B1, B6] ++ [B0, B2, B3, B4, B5, B7]) := List.Perm.trans (List.perm_middle (l₁ := [B0]) (a := B1) (l₂ := [B2, B3, B4, B5, B6, B7])) (List.Perm.cons _ (List.perm_middle (l₁ := [B0, B2, B3, B4, B5]) (a := B6) (l₂ := [B7])))
theorem pr_8_1_6 (B0 B1 B2 B3 B4 B5 B6 B7 : va_W) : ([B1, B6] ++ [B0, B2, B3, B4, B5, B7]).Perm [B0, B1, B2, B3, B4, B5, B6, B7] := (pm_8_1_6 B0 B1 B2 B3 B4 B5 B6 B7).symm
theorem pm_9_0_1_8 (B0 B1 B2 B3 B4 B5 B6 B7 B8 : va_W) : [B0, B1, B2, B3, B4, B5, B6, B7, B8].Perm ([B0, B1, B8] ++ [B2, B3, B4, B5, B6, B7]) := List.Perm.trans (List.Perm.refl _) (List.Perm.trans (List.Perm.cons _ (List.Perm.refl _)) (List.Perm.cons _ (List.Perm.cons _ (List.perm_middle (l₁ := [B2, B3, B4, B5, B6, B7]) (a := B8) (l₂ := [])))))
theorem pr_9_0_1_8 (B0 B1 B2 B3 B4 B5 B6 B7 B8 : va_W) : ([B0, B1, B8] ++ [B2, B3, B4, B5, B6, B7]).Perm [B0, B1, B2, B3, B4, B5, B6, B7, B8] := (pm_9_0_1_8 B0 B1 B2 B3 B4 B5 B6 B7 B8).symm
theorem pm_9_0_2_3_4_5_6_7_8 (B0 B1 B2 B3 B4 B5 B6 B7 B8 : va_W) : [B0, B1, B2, B3, B4, B5, B6, B7, B8].Perm ([B0, B2, B3, B4, B5, B6, B7, B8] ++ [B1]) := List.Perm.trans (List.Perm.refl _) (List.Perm.trans (List.Perm.cons _ (List.perm_middle (l₁ := [B1]) (a := B2) (l₂ := [B3, B4, B5, B6, B7, B8]))) (List.Perm.trans (List.Perm.cons _ (List.Perm.cons _ (List.perm_middle (l₁ := [B1]) (a := B3) (l₂ := [B4, B5, B6, B7, B8])))) (List.Perm.trans (List.Perm.cons _ (List.Perm.cons _ (List.Perm.cons _ (List.perm_middle (l₁ := [B1]) (a := B4) (l₂ := [B5, B6, B7, B8]))))) (List.Perm.trans (List.Perm.cons _ (List.Perm.cons _ (List.Perm.cons _ (List.Perm.cons _ (List.perm_middle (l₁ := [B1]) (a := B5) (l₂ := [B6, B7, B8])))))) (List.Perm.trans (List.Perm.cons _ (List.Perm.cons _ (List.Perm.cons _ (List.Perm.cons _ (List.Perm.cons _ (List.perm_middle (l₁ := [B1]) (a := B6) (l₂ := [B7, B8]))))))) (List.Perm.trans (List.Perm.cons _ (List.Perm.cons _ (List.Perm.cons _ (List.Perm.cons _ (List.Perm.cons _ (List.Perm.cons _ (List.perm_middle (l₁ := [B1]) (a := B7) (l₂ := [B8])))))))) (List.Perm.cons _ (List.Perm.cons _ (List.Perm.cons _ (List.Perm.cons _ (List.Perm.cons _ (List.Perm.cons _ (List.Perm.cons _ (List.perm_middle (l₁ := [B1]) (a := B8) (l₂ := [])))))))))))))))
theorem pr_9_0_2_3_4_5_6_7_8 (B0 B1 B2 B3 B4 B5 B6 B7 B8 : va_W) : ([B0, B2, B3, B4, B5, B6, B7, B8] ++ [B1]).Perm [B0, B1, B2, B3, B4, B5, B6, B7, B8] := (pm_9_0_2_3_4_5_6_7_8 B0 B1 B2 B3 B4 B5 B6 B7 B8).symm
theorem pm_9_2_3_4_5_6_7 (B0 B1 B2 B3 B4 B5 B6 B7 B8 : va_W) : [B0, B1, B2, B3, B4, B5, B6, B7, B8].Perm ([B2, B3, B4, B5, B6, B7] ++ [B0, B1, B8]) := List.Perm.trans (List.perm_middle (l₁ := [B0, B1]) (a := B2) (l₂ := [B3, B4, B5, B6, B7, B8])) (List.Perm.trans (List.Perm.cons _ (List.perm_middle (l₁ := [B0, B1]) (a := B3) (l₂ := [B4, B5, B6, B7, B8]))) (List.Perm.trans (List.Perm.cons _ (List.Perm.cons _ (List.perm_middle (l₁ := [B0, B1]) (a := B4) (l₂ := [B5, B6, B7, B8])))) (List.Perm.trans (List.Perm.cons _ (List.Perm.cons _ (List.Perm.cons _ (List.perm_middle (l₁ := [B0, B1]) (a := B5) (l₂ := [B6, B7, B8]))))) (List.Perm.trans (List.Perm.cons _ (List.Perm.cons _ (List.Perm.cons _ (List.Perm.cons _ (List.perm_middle (l₁ := [B0, B1]) (a := B6) (l₂ := [B7, B8])))))) (List.Perm.cons _ (List.Perm.cons _ (List.Perm.cons _ (List.Perm.cons _ (List.Perm.cons _ (List.perm_middle (l₁ := [B0, B1]) (a := B7) (l₂ := [B8])))))))))))
theorem pr_9_2_3_4_5_6_7 (B0 B1 B2 B3 B4 B5 B6 B7 B8 : va_W) : ([B2, B3, B4, B5, B6, B7] ++ [B0, B1, B8]).Perm [B0, B1, B2, B3, B4, B5, B6, B7, B8] := (pm_9_2_3_4_5_6_7 B0 B1 B2 B3 B4 B5 B6 B7 B8).symm
theorem pm_9_2_3_4_5_6_7_8 (B0 B1 B2 B3 B4 B5 B6 B7 B8 : va_W) : [B0, B1, B2, B3, B4, B5, B6, B7, B8].Perm ([B2, B3, B4, B5, B6, B7, B8] ++ [B0, B1]) := List.Perm.trans (List.perm_middle (l₁ := [B0, B1]) (a := B2) (l₂ := [B3, B4, B5, B6, B7, B8])) (List.Perm.trans (List.Perm.cons _ (List.perm_middle (l₁ := [B0, B1]) (a := B3) (l₂ := [B4, B5, B6, B7, B8]))) (List.Perm.trans (List.Perm.cons _ (List.Perm.cons _ (List.perm_middle (l₁ := [B0, B1]) (a := B4) (l₂ := [B5, B6, B7, B8])))) (List.Perm.trans (List.Perm.cons _ (List.Perm.cons _ (List.Perm.cons _ (List.perm_middle (l₁ := [B0, B1]) (a := B5) (l₂ := [B6, B7, B8]))))) (List.Perm.trans (List.Perm.cons _ (List.Perm.cons _ (List.Perm.cons _ (List.Perm.cons _ (List.perm_middle (l₁ := [B0, B1]) (a := B6) (l₂ := [B7, B8])))))) (List.Perm.trans (List.Perm.cons _ (List.Perm.cons _ (List.Perm.cons _ (List.Perm.cons _ (List.Perm.cons _ (List.perm_middle (l₁ := [B0, B1]) (a := B7) (l₂ := [B8]))))))) (List.Perm.cons _ (List.Perm.cons _ (List.Perm.cons _ (List.Perm.cons _ (List.Perm.cons _ (List.Perm.cons _ (List.perm_middle (l₁ := [B0, B1]) (a := B8) (l₂ := [])))))))))))))
theorem pr_9_2_3_4_5_6_7_8 (B0 B1 B2 B3 B4 B5 B6 B7 B8 : va_W) : ([B2, B3, B4, B5, B6, B7, B8] ++ [B0, B1]).Perm [B0, B1, B2, B3, B4, B5, B6, B7, B8] := (pm_9_2_3_4_5_6_7_8 B0 B1 B2 B3 B4 B5 B6 B7 B8).symm
theorem pm_9_8 (B0 B1 B2 B3 B4 B5 B6 B7 B8 : va_W) : [B0, B1, B2, B3, B4, B5, B6, B7, B8].Perm ([B8] ++ [B0, B1, B2, B3, B4, B5, B6, B7]) := List.perm_middle (l₁ := [B0, B1, B2, B3, B4, B5, B6, B7]) (a := B8) (l₂ := [])
theorem pr_9_8 (B0 B1 B2 B3 B4 B5 B6 B7 B8 : va_W) : ([B8] ++ [B0, B1, B2, B3, B4, B5, B6, B7]).Perm [B0, B1, B2, B3, B4, B5, B6, B7, B8] := (pm_9_8 B0 B1 B2 B3 B4 B5 B6 B7 B8).symm
set_option maxHeartbeats 4000000 in
set_option maxRecDepth 100000 in
theorem c_X5_begin (l : Launch) (D : va_G) (cA : Nat → ClassId) (q v : Nat) (b tb r m o d : Nat → Nat) (c : Int) (L : List ((Nat → Nat) × (Int → Int))) (S : Int → Int) (p : Int) (hI : Inv S) (hz : Inz S) (hc : 0 ≤ c ∧ c ≤ 4 ∧ c ≤ (L.length : Int) ∧ L.length ≤ 4) (hp : 2 ≤ p ∧ p ≤ 7) : MI (U := List ((Nat → Nat) × (Int → Int))) l yX5_begin cX5_begin 3 (some .int) (rmN 26 9 333) D cA [.ref (q), .int (iI p)] [prO q v b tb r m o c, svB cA v L, bk cA b S] (fun x u => x = S 1 ∧ (∃ (k : Nat → Nat) (T : Int → Int), u = svNx c L (k, cpS T S))) (fun u => [prO q v b tb r m o (if c < 4 then c + 1 else 4), svB cA v u, bk cA b (rstP S p)]) := by
  refine m_startI pn_X5 rfl (List.forall_mem_cons.mpr ⟨rfl, List.forall_mem_cons.mpr ⟨rfl, fun _ h => absurd h List.not_mem_nil⟩⟩) (Nat.le_of_ble_eq_true rfl) ?_
  intro K C e1 e2 e3 hin hR
  subst e1 e2 e3
  have hN := hI.2.1
  have hQ := hI.1
  show J K 0 0 [prO q v b tb r m o c, svB (kC K) v L, bk (kC K) b S] [some (.ref (q)), some (.int (iI p)), none] 0 []
  refine j_iload_n C dX5_begin_0 rfl ?_
  refine j_iconst C dX5_begin_1 ?_
  refine j_icmp_lt (tgt := 11) C dX5_begin_2 (by decide) (by omega) (by omega) (by omega) (by omega) (fun c2 => ?_) (fun c2 => ?_)
  · exfalso; omega
  · refine j_iload_n C dX5_begin_5 rfl ?_
    refine j_bipush C dX5_begin_6 (by decide) ?_
    refine j_icmp_le (tgt := 21) C dX5_begin_8 (by decide) (by omega) (by omega) (by omega) (by omega) (fun c8 => ?_) (fun c8 => ?_)
    · refine j_aload_n C dX5_begin_21 rfl ?_
      refine j_perm (pm_3_0_1_2 _ _ _) ?_
      refine j_callVv C (As := []) (c_X5_save _ _ _ _ _ _ _ _ _ _ (d) _ _ _ (by first | assumption | omega) (by first | assumption | omega)) 0 nf_X5_save (jb := 0) rfl rfl wL_X5_51 wI_X5_save wSe_X5_X5_save wIn_X5 wC_X5_save rfl rfl (by decide) dX5_begin_22 (Nat.le_of_ble_eq_true rfl) ⟨Nat.le_of_ble_eq_true rfl, Nat.le_of_ble_eq_true rfl⟩ (fun u22 h22 => ?_)
      refine j_perm (pr_3_0_1_2 _ _ _) ?_
      refine j_aload_n C dX5_begin_25 rfl ?_
      refine j_get C 0 0 0 rfl rfl rfl wU_X5 (by decide) wF_X5_12 rfl dX5_begin_26 ?_
      refine j_getN C 2 0 1 rfl rfl rfl wU_X0 (by decide) wFN_X5_54 rfl dX5_begin_29 ?_
      refine j_istn_2 C dX5_begin_32 rfl ?_
      refine j_aload_n C dX5_begin_33 rfl ?_
      refine j_get C 0 0 0 rfl rfl rfl wU_X5 (by decide) wF_X5_12 rfl dX5_begin_34 ?_
      refine j_iload_n C dX5_begin_37 rfl ?_
      refine j_perm (pm_3_2 _ _ _) ?_
      refine j_callVv C (As := [.int (iI _)]) (c_X0_restart _ _ _ _ _ _ ) 1 nf_X0_restart (jb := 0) rfl rfl wL_X5_58 wI_X0_restart wSe_X0_X0_restart wIn_X0 wC_X0_restart rfl rfl (by decide) dX5_begin_38 (Nat.le_of_ble_eq_true rfl) ⟨Nat.le_of_ble_eq_true rfl, Nat.le_of_ble_eq_true rfl⟩ (fun u38 h38 => ?_)
      refine j_perm (pr_3_2 _ _ _) ?_
      refine j_iload_n C dX5_begin_41 rfl ?_
      exact hR u22 dX5_begin_42 (by exact ⟨rfl, h22⟩) rfl (Nat.le_of_ble_eq_true rfl) (Nat.le_of_ble_eq_true rfl)
    · exfalso; omega
set_option maxHeartbeats 4000000 in
set_option maxRecDepth 100000 in
theorem c_X5_canBePromised (l : Launch) (D : va_G) (cA : Nat → ClassId) (a e x r : Int) (ha : -2147483648 ≤ a ∧ a < 2147483648) (he : -2147483648 ≤ e ∧ e < 2147483648) (hx : -2147483648 ≤ x ∧ x < 2147483648) (hr : -2147483648 ≤ r ∧ r < 2147483648) : MI (U := Unit) l yX5_canBePromised cX5_canBePromised 4 (some .boolean) (rmN 1 0 0) D cA [.int (iI a), .int (iI e), .int (iI x), .int (iI r)] [] (fun y _ => y = if 1 ≤ x ∧ x ≤ 1000 ∧ 1 ≤ r ∧ r ≤ 9 ∧ a ≠ e then 1 else 0) (fun _ => []) := by
  refine m_startZ pn_X5 rfl (List.forall_mem_cons.mpr ⟨rfl, List.forall_mem_cons.mpr ⟨rfl, List.forall_mem_cons.mpr ⟨rfl, List.forall_mem_cons.mpr ⟨rfl, fun _ h => absurd h List.not_mem_nil⟩⟩⟩⟩) (Nat.le_of_ble_eq_true rfl) ?_
  intro K C e1 e2 e3 hin hR
  subst e1 e2 e3
  show J K 0 0 [] [some (.int (iI a)), some (.int (iI e)), some (.int (iI x)), some (.int (iI r))] 0 []
  refine j_iload_n C dX5_canBePromised_0 rfl ?_
  refine j_iconst C dX5_canBePromised_1 ?_
  refine j_icmp_lt (tgt := 32) C dX5_canBePromised_2 (by decide) (by omega) (by omega) (by omega) (by omega) (fun c2 => ?_) (fun c2 => ?_)
  · refine j_iconst C dX5_canBePromised_32 ?_
    exact hR () dX5_canBePromised_33 (by omega) (by first | (rw [if_pos (by omega)]; done) | (rw [if_neg (by omega)]; done)) rfl (Nat.le_of_ble_eq_true rfl) (Nat.le_of_ble_eq_true rfl)
  · refine j_iload_n C dX5_canBePromised_5 rfl ?_
    refine j_sipush C dX5_canBePromised_6 (by decide) ?_
    refine j_icmp_gt (tgt := 32) C dX5_canBePromised_9 (by decide) (by omega) (by omega) (by omega) (by omega) (fun c9 => ?_) (fun c9 => ?_)
    · refine j_iconst C dX5_canBePromised_32 ?_
      exact hR () dX5_canBePromised_33 (by omega) (by first | (rw [if_pos (by omega)]; done) | (rw [if_neg (by omega)]; done)) rfl (Nat.le_of_ble_eq_true rfl) (Nat.le_of_ble_eq_true rfl)
    · refine j_iload_n C dX5_canBePromised_12 rfl ?_
      refine j_iconst C dX5_canBePromised_13 ?_
      refine j_icmp_lt (tgt := 32) C dX5_canBePromised_14 (by decide) (by omega) (by omega) (by omega) (by omega) (fun c14 => ?_) (fun c14 => ?_)
      · refine j_iconst C dX5_canBePromised_32 ?_
        exact hR () dX5_canBePromised_33 (by omega) (by first | (rw [if_pos (by omega)]; done) | (rw [if_neg (by omega)]; done)) rfl (Nat.le_of_ble_eq_true rfl) (Nat.le_of_ble_eq_true rfl)
      · refine j_iload_n C dX5_canBePromised_17 rfl ?_
        refine j_bipush C dX5_canBePromised_18 (by decide) ?_
        refine j_icmp_gt (tgt := 32) C dX5_canBePromised_20 (by decide) (by omega) (by omega) (by omega) (by omega) (fun c20 => ?_) (fun c20 => ?_)
        · refine j_iconst C dX5_canBePromised_32 ?_
          exact hR () dX5_canBePromised_33 (by omega) (by first | (rw [if_pos (by omega)]; done) | (rw [if_neg (by omega)]; done)) rfl (Nat.le_of_ble_eq_true rfl) (Nat.le_of_ble_eq_true rfl)
        · refine j_iload_n C dX5_canBePromised_23 rfl ?_
          refine j_iload_n C dX5_canBePromised_24 rfl ?_
          refine j_icmp_eq (tgt := 32) C dX5_canBePromised_25 (by decide) (by omega) (by omega) (by omega) (by omega) (fun c25 => ?_) (fun c25 => ?_)
          · refine j_iconst C dX5_canBePromised_32 ?_
            exact hR () dX5_canBePromised_33 (by omega) (by first | (rw [if_pos (by omega)]; done) | (rw [if_neg (by omega)]; done)) rfl (Nat.le_of_ble_eq_true rfl) (Nat.le_of_ble_eq_true rfl)
          · refine j_iconst C dX5_canBePromised_28 ?_
            refine j_goto (tgt := 33) C dX5_canBePromised_29 (by decide) ?_
            exact hR () dX5_canBePromised_33 (by omega) (by first | (rw [if_pos (by omega)]; done) | (rw [if_neg (by omega)]; done)) rfl (Nat.le_of_ble_eq_true rfl) (Nat.le_of_ble_eq_true rfl)
set_option maxHeartbeats 4000000 in
set_option maxRecDepth 100000 in
theorem c_X5_promise (l : Launch) (D : va_G) (cA : Nat → ClassId) (q v : Nat) (b tb r m o d : Nat → Nat) (c : Int) (L : List ((Nat → Nat) × (Int → Int))) (S : Int → Int) (a e x y : Int) (hI : Inv S) (hz : Inz S) (hc : 0 ≤ c ∧ c ≤ 4 ∧ c ≤ (L.length : Int) ∧ L.length ≤ 4) (ha : 0 ≤ a ∧ a < S 0) (he : 0 ≤ e ∧ e < S 0) (hne : a ≠ e) (hx : 1 ≤ x ∧ x ≤ 1000) (hy : 1 ≤ y ∧ y ≤ 9) (hn : S 1 < 40) : MI (U := List ((Nat → Nat) × (Int → Int))) l yX5_promise cX5_promise 5 (some .int) (rmN 26 9 333) D cA [.ref (q), .int (iI a), .int (iI e), .int (iI x), .int (iI y)] [prO q v b tb r m o c, svB cA v L, bk cA b S] (fun z u => z = S 1 ∧ (∃ (k : Nat → Nat) (T : Int → Int), u = svNx c L (k, cpS T S))) (fun u => [prO q v b tb r m o (if c < 4 then c + 1 else 4), svB cA v u, bk cA b (addP S a e x y)]) := by
  refine m_startI pn_X5 rfl (List.forall_mem_cons.mpr ⟨rfl, List.forall_mem_cons.mpr ⟨rfl, List.forall_mem_cons.mpr ⟨rfl, List.forall_mem_cons.mpr ⟨rfl, List.forall_mem_cons.mpr ⟨rfl, fun _ h => absurd h List.not_mem_nil⟩⟩⟩⟩⟩) (Nat.le_of_ble_eq_true rfl) ?_
  intro K C e1 e2 e3 hin hR
  subst e1 e2 e3
  have hN := hI.2.1
  have hQ := hI.1
  show J K 0 0 [prO q v b tb r m o c, svB (kC K) v L, bk (kC K) b S] [some (.ref (q)), some (.int (iI a)), some (.int (iI e)), some (.int (iI x)), some (.int (iI y))] 0 []
  refine j_aload_n C dX5_promise_0 rfl ?_
  refine j_get C 0 0 0 rfl rfl rfl wU_X5 (by decide) wF_X5_12 rfl dX5_promise_1 ?_
  refine j_iload_n C dX5_promise_4 rfl ?_
  refine j_perm (pm_3_2 _ _ _) ?_
  refine j_callVi C (As := [.int (iI _)]) (c_X0_hasParty _ _ _ _ _ _ (by first | assumption | omega) (by first | assumption | omega)) 1 nf_X0_hasParty (jb := 0) rfl rfl wL_X5_62 wI_X0_hasParty wSe_X0_X0_hasParty wIn_X0 wC_X0_hasParty rfl rfl (by decide) dX5_promise_5 (Nat.le_of_ble_eq_true rfl) ⟨Nat.le_of_ble_eq_true rfl, Nat.le_of_ble_eq_true rfl⟩ (fun x5 u5 h5 => ?_)
  refine j_perm (pr_3_2 _ _ _) ?_
  refine j_if_eq (tgt := 22) C dX5_promise_8 (by decide) (by omega) (by omega) (fun c8 => ?_) (fun c8 => ?_)
  · exact absurd c8 (by rw [h5, if_pos (by omega)]; decide)
  · refine j_aload_n C dX5_promise_11 rfl ?_
    refine j_get C 0 0 0 rfl rfl rfl wU_X5 (by decide) wF_X5_12 rfl dX5_promise_12 ?_
    refine j_iload_n C dX5_promise_15 rfl ?_
    refine j_perm (pm_3_2 _ _ _) ?_
    refine j_callVi C (As := [.int (iI _)]) (c_X0_hasParty _ _ _ _ _ _ (by first | assumption | omega) (by first | assumption | omega)) 1 nf_X0_hasParty (jb := 0) rfl rfl wL_X5_62 wI_X0_hasParty wSe_X0_X0_hasParty wIn_X0 wC_X0_hasParty rfl rfl (by decide) dX5_promise_16 (Nat.le_of_ble_eq_true rfl) ⟨Nat.le_of_ble_eq_true rfl, Nat.le_of_ble_eq_true rfl⟩ (fun x16 u16 h16 => ?_)
    refine j_perm (pr_3_2 _ _ _) ?_
    refine j_if_ne (tgt := 32) C dX5_promise_19 (by decide) (by omega) (by omega) (fun c19 => ?_) (fun c19 => ?_)
    · refine j_iload_n C dX5_promise_32 rfl ?_
      refine j_iload_n C dX5_promise_33 rfl ?_
      refine j_iload_n C dX5_promise_34 rfl ?_
      refine j_iload C dX5_promise_35 rfl ?_
      refine j_perm (pm_3 _ _ _) ?_
      refine j_callSi C (As := [.int (iI _), .int (iI _), .int (iI _), .int (iI _)]) (c_X5_canBePromised _ _ _ _ _ _ _ (by first | assumption | omega) (by first | assumption | omega) (by first | assumption | omega) (by first | assumption | omega)) 4 nf_X5_canBePromised.2 wL_X5_71 wS_X5_canBePromised wIn_X5 wC_X5_canBePromised rfl rfl (by decide) dX5_promise_37 (Nat.le_of_ble_eq_true rfl) ⟨Nat.le_of_ble_eq_true rfl, Nat.le_of_ble_eq_true rfl⟩ (fun x37 u37 h37 => ?_)
      refine j_perm (pr_3 _ _ _) ?_
      refine j_if_ne (tgt := 53) C dX5_promise_40 (by decide) (by omega) (by omega) (fun c40 => ?_) (fun c40 => ?_)
      · refine j_aload_n C dX5_promise_53 rfl ?_
        refine j_get C 0 0 0 rfl rfl rfl wU_X5 (by decide) wF_X5_12 rfl dX5_promise_54 ?_
        refine j_perm (pm_3_2 _ _ _) ?_
        refine j_callVi C (As := []) (c_X0_isFull _ _ _ _ _ (by first | assumption | omega)) 0 nf_X0_isFull (jb := 0) rfl rfl wL_X5_77 wI_X0_isFull wSe_X0_X0_isFull wIn_X0 wC_X0_isFull rfl rfl (by decide) dX5_promise_57 (Nat.le_of_ble_eq_true rfl) ⟨Nat.le_of_ble_eq_true rfl, Nat.le_of_ble_eq_true rfl⟩ (fun x57 u57 h57 => ?_)
        refine j_perm (pr_3_2 _ _ _) ?_
        refine j_if_eq (tgt := 73) C dX5_promise_60 (by decide) (by omega) (by omega) (fun c60 => ?_) (fun c60 => ?_)
        · refine j_aload_n C dX5_promise_73 rfl ?_
          refine j_perm (pm_3_0_1_2 _ _ _) ?_
          refine j_callVv C (As := []) (c_X5_save _ _ _ _ _ _ _ _ _ _ (d) _ _ _ (by first | assumption | omega) (by first | assumption | omega)) 0 nf_X5_save (jb := 0) rfl rfl wL_X5_51 wI_X5_save wSe_X5_X5_save wIn_X5 wC_X5_save rfl rfl (by decide) dX5_promise_74 (Nat.le_of_ble_eq_true rfl) ⟨Nat.le_of_ble_eq_true rfl, Nat.le_of_ble_eq_true rfl⟩ (fun u74 h74 => ?_)
          refine j_perm (pr_3_0_1_2 _ _ _) ?_
          refine j_aload_n C dX5_promise_77 rfl ?_
          refine j_get C 0 0 0 rfl rfl rfl wU_X5 (by decide) wF_X5_12 rfl dX5_promise_78 ?_
          refine j_iload_n C dX5_promise_81 rfl ?_
          refine j_iload_n C dX5_promise_82 rfl ?_
          refine j_iload_n C dX5_promise_83 rfl ?_
          refine j_iload C dX5_promise_84 rfl ?_
          refine j_perm (pm_3_2 _ _ _) ?_
          refine j_callVi C (As := [.int (iI _), .int (iI _), .int (iI _), .int (iI _)]) (c_X0_add _ _ _ _ _ _ _ _ _ (by first | assumption | omega)) 4 nf_X0_add (jb := 0) rfl rfl wL_X5_86 wI_X0_add wSe_X0_X0_add wIn_X0 wC_X0_add rfl rfl (by decide) dX5_promise_86 (Nat.le_of_ble_eq_true rfl) ⟨Nat.le_of_ble_eq_true rfl, Nat.le_of_ble_eq_true rfl⟩ (fun x86 u86 h86 => ?_)
          refine j_perm (pr_3_2 _ _ _) ?_
          exact hR u74 dX5_promise_89 (by exact ⟨h86, h74⟩) rfl (Nat.le_of_ble_eq_true rfl) (Nat.le_of_ble_eq_true rfl)
        · exact absurd h57 (by rw [if_neg (by omega)]; exact c60)
      · exact absurd c40 (by rw [h37, if_pos (by omega)]; decide)
    · exact absurd c19 (by rw [h16, if_pos (by omega)]; decide)
set_option maxHeartbeats 4000000 in
set_option maxRecDepth 100000 in
theorem c_X5_pay (l : Launch) (D : va_G) (cA : Nat → ClassId) (q v : Nat) (b tb r m o d : Nat → Nat) (c : Int) (L : List ((Nat → Nat) × (Int → Int))) (S : Int → Int) (i a : Int) (hI : Inv S) (hz : Inz S) (hc : 0 ≤ c ∧ c ≤ 4 ∧ c ≤ (L.length : Int) ∧ L.length ≤ 4) (hi : 0 ≤ i ∧ i < S 1) (ha : 1 ≤ a ∧ a ≤ am S i) : MI (U := List ((Nat → Nat) × (Int → Int))) l yX5_pay cX5_pay 3 (some .int) (rmN 26 9 333) D cA [.ref (q), .int (iI i), .int (iI a)] [prO q v b tb r m o c, svB cA v L, bk cA b S] (fun x u => x = am (payP S i a) i ∧ (∃ (k : Nat → Nat) (T : Int → Int), u = svNx c L (k, cpS T S))) (fun u => [prO q v b tb r m o (if c < 4 then c + 1 else 4), svB cA v u, bk cA b (payP S i a)]) := by
  refine m_startI pn_X5 rfl (List.forall_mem_cons.mpr ⟨rfl, List.forall_mem_cons.mpr ⟨rfl, List.forall_mem_cons.mpr ⟨rfl, fun _ h => absurd h List.not_mem_nil⟩⟩⟩) (Nat.le_of_ble_eq_true rfl) ?_
  intro K C e1 e2 e3 hin hR
  subst e1 e2 e3
  have hN := hI.2.1
  have hQ := hI.1
  have f := hI.2.2 i hi.1 hi.2
  show J K 0 0 [prO q v b tb r m o c, svB (kC K) v L, bk (kC K) b S] [some (.ref (q)), some (.int (iI i)), some (.int (iI a))] 0 []
  refine j_aload_n C dX5_pay_0 rfl ?_
  refine j_get C 0 0 0 rfl rfl rfl wU_X5 (by decide) wF_X5_12 rfl dX5_pay_1 ?_
  refine j_iload_n C dX5_pay_4 rfl ?_
  refine j_perm (pm_3_2 _ _ _) ?_
  refine j_callVi C (As := [.int (iI _)]) (c_X0_holds _ _ _ _ _ _ (by first | assumption | omega) (by first | assumption | omega)) 1 nf_X0_holds (jb := 0) rfl rfl wL_X5_90 wI_X0_holds wSe_X0_X0_holds wIn_X0 wC_X0_holds rfl rfl (by decide) dX5_pay_5 (Nat.le_of_ble_eq_true rfl) ⟨Nat.le_of_ble_eq_true rfl, Nat.le_of_ble_eq_true rfl⟩ (fun x5 u5 h5 => ?_)
  refine j_perm (pr_3_2 _ _ _) ?_
  refine j_if_ne (tgt := 21) C dX5_pay_8 (by decide) (by omega) (by omega) (fun c8 => ?_) (fun c8 => ?_)
  · refine j_iload_n C dX5_pay_21 rfl ?_
    refine j_iconst C dX5_pay_22 ?_
    refine j_icmp_ge (tgt := 36) C dX5_pay_23 (by decide) (by omega) (by omega) (by omega) (by omega) (fun c23 => ?_) (fun c23 => ?_)
    · refine j_iload_n C dX5_pay_36 rfl ?_
      refine j_aload_n C dX5_pay_37 rfl ?_
      refine j_get C 0 0 0 rfl rfl rfl wU_X5 (by decide) wF_X5_12 rfl dX5_pay_38 ?_
      refine j_getN C 2 0 7 rfl rfl rfl wU_X0 (by decide) wFN_X5_97 rfl dX5_pay_41 ?_
      refine j_iload_n C dX5_pay_44 rfl ?_
      refine j_iald C 2 3 rfl rfl dX5_pay_45 (by decide) (by omega) (by omega) ?_
      refine j_icmp_le (tgt := 59) C dX5_pay_46 (by decide) (by omega) (by omega) (by omega) (by omega) (fun c46 => ?_) (fun c46 => ?_)
      · refine j_aload_n C dX5_pay_59 rfl ?_
        refine j_perm (pm_3_0_1_2 _ _ _) ?_
        refine j_callVv C (As := []) (c_X5_save _ _ _ _ _ _ _ _ _ _ (d) _ _ _ (by first | assumption | omega) (by first | assumption | omega)) 0 nf_X5_save (jb := 0) rfl rfl wL_X5_51 wI_X5_save wSe_X5_X5_save wIn_X5 wC_X5_save rfl rfl (by decide) dX5_pay_60 (Nat.le_of_ble_eq_true rfl) ⟨Nat.le_of_ble_eq_true rfl, Nat.le_of_ble_eq_true rfl⟩ (fun u60 h60 => ?_)
        refine j_perm (pr_3_0_1_2 _ _ _) ?_
        refine j_aload_n C dX5_pay_63 rfl ?_
        refine j_get C 0 0 0 rfl rfl rfl wU_X5 (by decide) wF_X5_12 rfl dX5_pay_64 ?_
        refine j_iload_n C dX5_pay_67 rfl ?_
        refine j_iload_n C dX5_pay_68 rfl ?_
        refine j_perm (pm_3_2 _ _ _) ?_
        refine j_callVv C (As := [.int (iI _), .int (iI _)]) (c_X0_payPart _ _ _ _ _ _ _ (by first | assumption | omega) (by first | assumption | omega)) 2 nf_X0_payPart (jb := 0) rfl rfl wL_X5_103 wI_X0_payPart wSe_X0_X0_payPart wIn_X0 wC_X0_payPart rfl rfl (by decide) dX5_pay_69 (Nat.le_of_ble_eq_true rfl) ⟨Nat.le_of_ble_eq_true rfl, Nat.le_of_ble_eq_true rfl⟩ (fun u69 h69 => ?_)
        refine j_perm (pr_3_2 _ _ _) ?_
        refine j_aload_n C dX5_pay_72 rfl ?_
        refine j_get C 0 0 0 rfl rfl rfl wU_X5 (by decide) wF_X5_12 rfl dX5_pay_73 ?_
        refine j_getN C 2 0 7 rfl rfl rfl wU_X0 (by decide) wFN_X5_97 rfl dX5_pay_76 ?_
        refine j_iload_n C dX5_pay_79 rfl ?_
        refine j_iald C 2 3 rfl rfl dX5_pay_80 (by decide) (by omega) (by omega) ?_
        exact hR u60 dX5_pay_81 (by exact ⟨rfl, h60⟩) rfl (Nat.le_of_ble_eq_true rfl) (Nat.le_of_ble_eq_true rfl)
      · exfalso; omega
    · exfalso; omega
  · exact absurd c8 (by rw [h5, if_pos (by omega)]; decide)
set_option maxHeartbeats 4000000 in
set_option maxRecDepth 100000 in
theorem c_X5_dispute (l : Launch) (D : va_G) (cA : Nat → ClassId) (q v : Nat) (b tb r m o d : Nat → Nat) (c : Int) (L : List ((Nat → Nat) × (Int → Int))) (z : Int) (X F Nx f S : Int → Int) (i : Int) (hI : Inv S) (hz : Inz S) (hc : 0 ≤ c ∧ c ≤ 4 ∧ c ≤ (L.length : Int) ∧ L.length ≤ 4) (hi : 0 ≤ i ∧ i < S 1) (ha : 0 < am S i ∧ di S i = 0) : MI (U := ((Int → Int) × (Int → Int) × (Int → Int) × (Int → Int)) × List ((Nat → Nat) × (Int → Int))) l yX5_dispute cX5_dispute 3 (some .int) (rmN 26 9 333) D cA [.ref (q), .int (iI i)] [prO q v b tb r m o c, svB cA v L, rgO r (d 0) z, dbO d, [(d 1, aJ (cA 0) 49 X)], [(d 2, aJ (cA 0) 49 F)], [(d 3, aJ (cA 0) 40 Nx)], [(r 1, aJ (cA 0) 2365 f)], bk cA b S] (fun x u => x = ((RS S).length : Int) - ((RS (st S (9 + 8 * i) 1)).length : Int) ∧ (∃ (k : Nat → Nat) (T : Int → Int), u.2 = svNx c L (k, cpS T S))) (fun u => [prO q v b tb r m o (if c < 4 then c + 1 else 4), svB cA v u.2, rgO r (d 0) ((RS (st S (9 + 8 * i) 1)).length : Int), dbO d, [(d 1, aJ (cA 0) 49 u.1.1)], [(d 2, aJ (cA 0) 49 u.1.2.1)], [(d 3, aJ (cA 0) 40 u.1.2.2.1)], [(r 1, aJ (cA 0) 2365 u.1.2.2.2)], bk cA b (st S (9 + 8 * i) 1)]) := by
  refine m_startI pn_X5 rfl (List.forall_mem_cons.mpr ⟨rfl, List.forall_mem_cons.mpr ⟨rfl, fun _ h => absurd h List.not_mem_nil⟩⟩) (Nat.le_of_ble_eq_true rfl) ?_
  intro K C e1 e2 e3 hin hR
  subst e1 e2 e3
  have hN := hI.2.1
  have hQ := hI.1
  have hI2 := Inv_di (w := 1) hI hi.1 (Or.inr rfl)
  have hl1 := RS_len hI
  have hl2 := RS_len hI2
  show J K 0 0 [prO q v b tb r m o c, svB (kC K) v L, rgO r (d 0) z, dbO d, [(d 1, aJ ((kC K) 0) 49 X)], [(d 2, aJ ((kC K) 0) 49 F)], [(d 3, aJ ((kC K) 0) 40 Nx)], [(r 1, aJ ((kC K) 0) 2365 f)], bk (kC K) b S] [some (.ref (q)), some (.int (iI i)), none] 0 []
  refine j_aload_n C dX5_dispute_0 rfl ?_
  refine j_get C 0 0 0 rfl rfl rfl wU_X5 (by decide) wF_X5_12 rfl dX5_dispute_1 ?_
  refine j_iload_n C dX5_dispute_4 rfl ?_
  refine j_perm (pm_9_8 _ _ _ _ _ _ _ _ _) ?_
  refine j_callVi C (As := [.int (iI _)]) (c_X0_holds _ _ _ _ _ _ (by first | assumption | omega) (by first | assumption | omega)) 1 nf_X0_holds (jb := 0) rfl rfl wL_X5_90 wI_X0_holds wSe_X0_X0_holds wIn_X0 wC_X0_holds rfl rfl (by decide) dX5_dispute_5 (Nat.le_of_ble_eq_true rfl) ⟨Nat.le_of_ble_eq_true rfl, Nat.le_of_ble_eq_true rfl⟩ (fun x5 u5 h5 => ?_)
  refine j_perm (pr_9_8 _ _ _ _ _ _ _ _ _) ?_
  refine j_if_ne (tgt := 21) C dX5_dispute_8 (by decide) (by omega) (by omega) (fun c8 => ?_) (fun c8 => ?_)
  · refine j_aload_n C dX5_dispute_21 rfl ?_
    refine j_get C 0 0 0 rfl rfl rfl wU_X5 (by decide) wF_X5_12 rfl dX5_dispute_22 ?_
    refine j_iload_n C dX5_dispute_25 rfl ?_
    refine j_perm (pm_9_8 _ _ _ _ _ _ _ _ _) ?_
    refine j_callVi C (As := [.int (iI _)]) (c_X0_canBeDisputed _ _ _ _ _ _ (by first | assumption | omega) (by first | assumption | omega)) 1 nf_X0_canBeDisputed (jb := 0) rfl rfl wL_X5_107 wI_X0_canBeDisputed wSe_X0_X0_canBeDisputed wIn_X0 wC_X0_canBeDisputed rfl rfl (by decide) dX5_dispute_26 (Nat.le_of_ble_eq_true rfl) ⟨Nat.le_of_ble_eq_true rfl, Nat.le_of_ble_eq_true rfl⟩ (fun x26 u26 h26 => ?_)
    refine j_perm (pr_9_8 _ _ _ _ _ _ _ _ _) ?_
    refine j_if_ne (tgt := 42) C dX5_dispute_29 (by decide) (by omega) (by omega) (fun c29 => ?_) (fun c29 => ?_)
    · refine j_aload_n C dX5_dispute_42 rfl ?_
      refine j_perm (pm_9_0_1_8 _ _ _ _ _ _ _ _ _) ?_
      refine j_callVv C (As := []) (c_X5_save _ _ _ _ _ _ _ _ _ _ (d) _ _ _ (by first | assumption | omega) (by first | assumption | omega)) 0 nf_X5_save (jb := 0) rfl rfl wL_X5_51 wI_X5_save wSe_X5_X5_save wIn_X5 wC_X5_save rfl rfl (by decide) dX5_dispute_43 (Nat.le_of_ble_eq_true rfl) ⟨Nat.le_of_ble_eq_true rfl, Nat.le_of_ble_eq_true rfl⟩ (fun u43 h43 => ?_)
      refine j_perm (pr_9_0_1_8 _ _ _ _ _ _ _ _ _) ?_
      refine j_aload_n C dX5_dispute_46 rfl ?_
      refine j_perm (pm_9_0_2_3_4_5_6_7_8 _ _ _ _ _ _ _ _ _) ?_
      refine j_callVi C (As := []) (c_X5_countRings _ _ _ _ _ _ _ _ _ _ (d) _ _ _ _ _ _ _ (by first | assumption | omega)) 0 nf_X5_countRings (jb := 0) rfl rfl wL_X5_112 wI_X5_countRings wSe_X5_X5_countRings wIn_X5 wC_X5_countRings rfl rfl (by decide) dX5_dispute_47 (Nat.le_of_ble_eq_true rfl) ⟨Nat.le_of_ble_eq_true rfl, Nat.le_of_ble_eq_true rfl⟩ (fun x47 u47 h47 => ?_)
      refine j_perm (pr_9_0_2_3_4_5_6_7_8 _ _ _ _ _ _ _ _ _) ?_
      refine j_istn_2 C dX5_dispute_50 rfl ?_
      refine j_aload_n C dX5_dispute_51 rfl ?_
      refine j_get C 0 0 0 rfl rfl rfl wU_X5 (by decide) wF_X5_12 rfl dX5_dispute_52 ?_
      refine j_getN C 8 0 12 rfl rfl rfl wU_X0 (by decide) wFN_X5_116 rfl dX5_dispute_55 ?_
      refine j_iload_n C dX5_dispute_58 rfl ?_
      refine j_iconst C dX5_dispute_59 ?_
      refine j_zast_p8 C 8 rfl (bk_ast8 (by omega)) dX5_dispute_60 (by decide) (by omega) (by omega) (by omega) ?_
      refine j_iload_n C dX5_dispute_61 rfl ?_
      refine j_aload_n C dX5_dispute_62 rfl ?_
      refine j_perm (pm_9_0_2_3_4_5_6_7_8 _ _ _ _ _ _ _ _ _) ?_
      refine j_callVi C (As := []) (c_X5_countRings _ _ _ _ _ _ _ _ _ _ (d) _ _ _ _ _ _ _ (by exact hI2)) 0 nf_X5_countRings (jb := 0) rfl rfl wL_X5_112 wI_X5_countRings wSe_X5_X5_countRings wIn_X5 wC_X5_countRings rfl rfl (by decide) dX5_dispute_63 (Nat.le_of_ble_eq_true rfl) ⟨Nat.le_of_ble_eq_true rfl, Nat.le_of_ble_eq_true rfl⟩ (fun x63 u63 h63 => ?_)
      refine j_perm (pr_9_0_2_3_4_5_6_7_8 _ _ _ _ _ _ _ _ _) ?_
      refine j_isub C dX5_dispute_66 ?_
      exact hR (u63, u43) dX5_dispute_67 (by exact ⟨by rw [h47.1, h63.1], h43⟩) rfl (Nat.le_of_ble_eq_true rfl) (Nat.le_of_ble_eq_true rfl)
    · exact absurd c29 (by rw [h26, if_pos ⟨hi, ha⟩]; decide)
  · exact absurd c8 (by rw [h5, if_pos (by omega)]; decide)
set_option maxHeartbeats 4000000 in
set_option maxRecDepth 100000 in
theorem c_X5_settle (l : Launch) (D : va_G) (cA : Nat → ClassId) (q v : Nat) (b tb r m o d : Nat → Nat) (c : Int) (L : List ((Nat → Nat) × (Int → Int))) (z : Int) (X F Nx f S : Int → Int) (i : Int) (hI : Inv S) (hz : Inz S) (hc : 0 ≤ c ∧ c ≤ 4 ∧ c ≤ (L.length : Int) ∧ L.length ≤ 4) (hi : 0 ≤ i ∧ i < S 1) (ha : di S i = 1) : MI (U := ((Int → Int) × (Int → Int) × (Int → Int) × (Int → Int)) × List ((Nat → Nat) × (Int → Int))) l yX5_settle cX5_settle 2 (some .int) (rmN 26 9 333) D cA [.ref (q), .int (iI i)] [prO q v b tb r m o c, svB cA v L, rgO r (d 0) z, dbO d, [(d 1, aJ (cA 0) 49 X)], [(d 2, aJ (cA 0) 49 F)], [(d 3, aJ (cA 0) 40 Nx)], [(r 1, aJ (cA 0) 2365 f)], bk cA b S] (fun x u => x = ((RS (st S (9 + 8 * i) 0)).length : Int) ∧ (∃ (k : Nat → Nat) (T : Int → Int), u.2 = svNx c L (k, cpS T S))) (fun u => [prO q v b tb r m o (if c < 4 then c + 1 else 4), svB cA v u.2, rgO r (d 0) ((RS (st S (9 + 8 * i) 0)).length : Int), dbO d, [(d 1, aJ (cA 0) 49 u.1.1)], [(d 2, aJ (cA 0) 49 u.1.2.1)], [(d 3, aJ (cA 0) 40 u.1.2.2.1)], [(r 1, aJ (cA 0) 2365 u.1.2.2.2)], bk cA b (st S (9 + 8 * i) 0)]) := by
  refine m_startI pn_X5 rfl (List.forall_mem_cons.mpr ⟨rfl, List.forall_mem_cons.mpr ⟨rfl, fun _ h => absurd h List.not_mem_nil⟩⟩) (Nat.le_of_ble_eq_true rfl) ?_
  intro K C e1 e2 e3 hin hR
  subst e1 e2 e3
  have hN := hI.2.1
  have hQ := hI.1
  have hI2 := Inv_di (w := 0) hI hi.1 (Or.inl rfl)
  show J K 0 0 [prO q v b tb r m o c, svB (kC K) v L, rgO r (d 0) z, dbO d, [(d 1, aJ ((kC K) 0) 49 X)], [(d 2, aJ ((kC K) 0) 49 F)], [(d 3, aJ ((kC K) 0) 40 Nx)], [(r 1, aJ ((kC K) 0) 2365 f)], bk (kC K) b S] [some (.ref (q)), some (.int (iI i))] 0 []
  refine j_aload_n C dX5_settle_0 rfl ?_
  refine j_get C 0 0 0 rfl rfl rfl wU_X5 (by decide) wF_X5_12 rfl dX5_settle_1 ?_
  refine j_iload_n C dX5_settle_4 rfl ?_
  refine j_perm (pm_9_8 _ _ _ _ _ _ _ _ _) ?_
  refine j_callVi C (As := [.int (iI _)]) (c_X0_holds _ _ _ _ _ _ (by first | assumption | omega) (by first | assumption | omega)) 1 nf_X0_holds (jb := 0) rfl rfl wL_X5_90 wI_X0_holds wSe_X0_X0_holds wIn_X0 wC_X0_holds rfl rfl (by decide) dX5_settle_5 (Nat.le_of_ble_eq_true rfl) ⟨Nat.le_of_ble_eq_true rfl, Nat.le_of_ble_eq_true rfl⟩ (fun x5 u5 h5 => ?_)
  refine j_perm (pr_9_8 _ _ _ _ _ _ _ _ _) ?_
  refine j_if_ne (tgt := 21) C dX5_settle_8 (by decide) (by omega) (by omega) (fun c8 => ?_) (fun c8 => ?_)
  · refine j_aload_n C dX5_settle_21 rfl ?_
    refine j_get C 0 0 0 rfl rfl rfl wU_X5 (by decide) wF_X5_12 rfl dX5_settle_22 ?_
    refine j_getN C 8 0 12 rfl rfl rfl wU_X0 (by decide) wFN_X5_116 rfl dX5_settle_25 ?_
    refine j_iload_n C dX5_settle_28 rfl ?_
    refine j_zald C 8 8 rfl rfl dX5_settle_29 (by decide) (by omega) (by omega) ?_
    refine j_if_ne (tgt := 43) C dX5_settle_30 (by decide) (by omega) (by omega) (fun c30 => ?_) (fun c30 => ?_)
    · refine j_aload_n C dX5_settle_43 rfl ?_
      refine j_perm (pm_9_0_1_8 _ _ _ _ _ _ _ _ _) ?_
      refine j_callVv C (As := []) (c_X5_save _ _ _ _ _ _ _ _ _ _ (d) _ _ _ (by first | assumption | omega) (by first | assumption | omega)) 0 nf_X5_save (jb := 0) rfl rfl wL_X5_51 wI_X5_save wSe_X5_X5_save wIn_X5 wC_X5_save rfl rfl (by decide) dX5_settle_44 (Nat.le_of_ble_eq_true rfl) ⟨Nat.le_of_ble_eq_true rfl, Nat.le_of_ble_eq_true rfl⟩ (fun u44 h44 => ?_)
      refine j_perm (pr_9_0_1_8 _ _ _ _ _ _ _ _ _) ?_
      refine j_aload_n C dX5_settle_47 rfl ?_
      refine j_get C 0 0 0 rfl rfl rfl wU_X5 (by decide) wF_X5_12 rfl dX5_settle_48 ?_
      refine j_getN C 8 0 12 rfl rfl rfl wU_X0 (by decide) wFN_X5_116 rfl dX5_settle_51 ?_
      refine j_iload_n C dX5_settle_54 rfl ?_
      refine j_iconst C dX5_settle_55 ?_
      refine j_zast_p8 C 8 rfl (bk_ast8 (by omega)) dX5_settle_56 (by decide) (by omega) (by omega) (by omega) ?_
      refine j_aload_n C dX5_settle_57 rfl ?_
      refine j_perm (pm_9_0_2_3_4_5_6_7_8 _ _ _ _ _ _ _ _ _) ?_
      refine j_callVi C (As := []) (c_X5_countRings _ _ _ _ _ _ _ _ _ _ (d) _ _ _ _ _ _ _ (by exact hI2)) 0 nf_X5_countRings (jb := 0) rfl rfl wL_X5_112 wI_X5_countRings wSe_X5_X5_countRings wIn_X5 wC_X5_countRings rfl rfl (by decide) dX5_settle_58 (Nat.le_of_ble_eq_true rfl) ⟨Nat.le_of_ble_eq_true rfl, Nat.le_of_ble_eq_true rfl⟩ (fun x58 u58 h58 => ?_)
      refine j_perm (pr_9_0_2_3_4_5_6_7_8 _ _ _ _ _ _ _ _ _) ?_
      exact hR (u58, u44) dX5_settle_61 (by exact ⟨h58.1, h44⟩) rfl (Nat.le_of_ble_eq_true rfl) (Nat.le_of_ble_eq_true rfl)
    · exfalso; omega
  · exact absurd c8 (by rw [h5, if_pos (by omega)]; decide)
set_option maxHeartbeats 4000000 in
set_option maxRecDepth 100000 in
theorem c_X5_discharge (l : Launch) (D : va_G) (cA : Nat → ClassId) (q v : Nat) (b tb r m o d : Nat → Nat) (c : Int) (L : List ((Nat → Nat) × (Int → Int))) (z : Int) (X F Nx f S : Int → Int) (j a : Int) (hI : Inv S) (hz : Inz S) (hc : 0 ≤ c ∧ c ≤ 4 ∧ c ≤ (L.length : Int) ∧ L.length ≤ 4) (hj : 0 ≤ j ∧ j < ((RS S).length : Int)) (ha : 1 ≤ a ∧ a ≤ room S ((RS S).getD j.toNat [])) : MI (U := ((Int → Int) × (Int → Int) × (Int → Int) × (Int → Int)) × List ((Nat → Nat) × (Int → Int))) l yX5_discharge cX5_discharge 3 (some .int) (rmN 26 9 333) D cA [.ref (q), .int (iI j), .int (iI a)] [prO q v b tb r m o c, svB cA v L, rgO r (d 0) z, dbO d, [(d 1, aJ (cA 0) 49 X)], [(d 2, aJ (cA 0) 49 F)], [(d 3, aJ (cA 0) 40 Nx)], [(r 1, aJ (cA 0) 2365 f)], bk cA b S] (fun x u => x = savP S ((RS S).getD j.toNat []) a ∧ (∃ (k : Nat → Nat) (T : Int → Int), u.2 = svNx c L (k, cpS T S))) (fun u => [prO q v b tb r m o (if c < 4 then c + 1 else 4), svB cA v u.2, rgO r (d 0) ((RS S).length : Int), dbO d, [(d 1, aJ (cA 0) 49 u.1.1)], [(d 2, aJ (cA 0) 49 u.1.2.1)], [(d 3, aJ (cA 0) 40 u.1.2.2.1)], [(r 1, aJ (cA 0) 2365 u.1.2.2.2)], bk cA b (disR S ((RS S).getD j.toNat []) a)]) := by
  refine m_startI pn_X5 rfl (List.forall_mem_cons.mpr ⟨rfl, List.forall_mem_cons.mpr ⟨rfl, List.forall_mem_cons.mpr ⟨rfl, fun _ h => absurd h List.not_mem_nil⟩⟩⟩) (Nat.le_of_ble_eq_true rfl) ?_
  intro K C e1 e2 e3 hin hR
  subst e1 e2 e3
  have hN := hI.2.1
  have hQ := hI.1
  have hlen := RS_len hI
  have hpr := RS_get (S := S) hj.1 hj.2
  have hrb := room_bd hI hpr
  show J K 0 0 [prO q v b tb r m o c, svB (kC K) v L, rgO r (d 0) z, dbO d, [(d 1, aJ ((kC K) 0) 49 X)], [(d 2, aJ ((kC K) 0) 49 F)], [(d 3, aJ ((kC K) 0) 40 Nx)], [(r 1, aJ ((kC K) 0) 2365 f)], bk (kC K) b S] [some (.ref (q)), some (.int (iI j)), some (.int (iI a))] 0 []
  refine j_iload_n C dX5_discharge_0 rfl ?_
  refine j_if_lt (tgt := 12) C dX5_discharge_1 (by decide) (by omega) (by omega) (fun c1 => ?_) (fun c1 => ?_)
  · exfalso; omega
  · refine j_iload_n C dX5_discharge_4 rfl ?_
    refine j_aload_n C dX5_discharge_5 rfl ?_
    refine j_perm (pm_9_0_2_3_4_5_6_7_8 _ _ _ _ _ _ _ _ _) ?_
    refine j_callVi C (As := []) (c_X5_countRings _ _ _ _ _ _ _ _ _ _ (d) _ _ _ _ _ _ _ (by first | assumption | omega)) 0 nf_X5_countRings (jb := 0) rfl rfl wL_X5_112 wI_X5_countRings wSe_X5_X5_countRings wIn_X5 wC_X5_countRings rfl rfl (by decide) dX5_discharge_6 (Nat.le_of_ble_eq_true rfl) ⟨Nat.le_of_ble_eq_true rfl, Nat.le_of_ble_eq_true rfl⟩ (fun x6 u6 h6 => ?_)
    refine j_perm (pr_9_0_2_3_4_5_6_7_8 _ _ _ _ _ _ _ _ _) ?_
    obtain ⟨hx, hF⟩ := h6
    refine j_icmp_lt (tgt := 22) C dX5_discharge_9 (by decide) (by omega) (by omega) (by omega) (by omega) (fun c9 => ?_) (fun c9 => ?_)
    · refine j_iload_n C dX5_discharge_22 rfl ?_
      refine j_iconst C dX5_discharge_23 ?_
      refine j_icmp_ge (tgt := 37) C dX5_discharge_24 (by decide) (by omega) (by omega) (by omega) (by omega) (fun c24 => ?_) (fun c24 => ?_)
      · refine j_iload_n C dX5_discharge_37 rfl ?_
        refine j_aload_n C dX5_discharge_38 rfl ?_
        refine j_get C 0 0 2 rfl rfl rfl wU_X5 (by decide) wF_X5_22 rfl dX5_discharge_39 ?_
        refine j_iload_n C dX5_discharge_42 rfl ?_
        refine j_perm (pm_9_2_3_4_5_6_7 _ _ _ _ _ _ _ _ _) ?_
        refine j_callVi C (As := [.int (iI _)]) (c_X4_roomAt _ _ _ _ _ _ _ _ _ _ _ _ (by first | assumption | omega) (by exact hF) (by first | assumption | omega)) 1 nf_X4_roomAt (jb := 0) rfl rfl wL_X5_126 wI_X4_roomAt wSe_X4_X4_roomAt wIn_X4 wC_X4_roomAt rfl rfl (by decide) dX5_discharge_43 (Nat.le_of_ble_eq_true rfl) ⟨Nat.le_of_ble_eq_true rfl, Nat.le_of_ble_eq_true rfl⟩ (fun x43 u43 h43 => ?_)
        refine j_perm (pr_9_2_3_4_5_6_7 _ _ _ _ _ _ _ _ _) ?_
        refine j_icmp_le (tgt := 59) C dX5_discharge_46 (by decide) (by omega) (by omega) (by omega) (by omega) (fun c46 => ?_) (fun c46 => ?_)
        · refine j_aload_n C dX5_discharge_59 rfl ?_
          refine j_perm (pm_9_0_1_8 _ _ _ _ _ _ _ _ _) ?_
          refine j_callVv C (As := []) (c_X5_save _ _ _ _ _ _ _ _ _ _ (d) _ _ _ (by first | assumption | omega) (by first | assumption | omega)) 0 nf_X5_save (jb := 0) rfl rfl wL_X5_51 wI_X5_save wSe_X5_X5_save wIn_X5 wC_X5_save rfl rfl (by decide) dX5_discharge_60 (Nat.le_of_ble_eq_true rfl) ⟨Nat.le_of_ble_eq_true rfl, Nat.le_of_ble_eq_true rfl⟩ (fun u60 h60 => ?_)
          refine j_perm (pr_9_0_1_8 _ _ _ _ _ _ _ _ _) ?_
          refine j_aload_n C dX5_discharge_63 rfl ?_
          refine j_get C 0 0 2 rfl rfl rfl wU_X5 (by decide) wF_X5_22 rfl dX5_discharge_64 ?_
          refine j_aload_n C dX5_discharge_67 rfl ?_
          refine j_get C 0 0 0 rfl rfl rfl wU_X5 (by decide) wF_X5_12 rfl dX5_discharge_68 ?_
          refine j_iload_n C dX5_discharge_71 rfl ?_
          refine j_iload_n C dX5_discharge_72 rfl ?_
          refine j_perm (pm_9_2_3_4_5_6_7_8 _ _ _ _ _ _ _ _ _) ?_
          refine j_callVi C (As := [.ref _, .int (iI _), .int (iI _)]) (c_X4_releaseAround _ _ _ _ _ _ _ _ _ _ _ _ _ _ (by first | assumption | omega) (by exact hF) (by first | assumption | omega) (by omega)) 3 nf_X4_releaseAround (jb := 0) rfl rfl wL_X5_132 wI_X4_releaseAround wSe_X4_X4_releaseAround wIn_X4 wC_X4_releaseAround rfl rfl (by decide) dX5_discharge_73 (Nat.le_of_ble_eq_true rfl) ⟨Nat.le_of_ble_eq_true rfl, Nat.le_of_ble_eq_true rfl⟩ (fun x73 u73 h73 => ?_)
          refine j_perm (pr_9_2_3_4_5_6_7_8 _ _ _ _ _ _ _ _ _) ?_
          exact hR (u6, u60) dX5_discharge_76 (by exact ⟨h73, h60⟩) rfl (Nat.le_of_ble_eq_true rfl) (Nat.le_of_ble_eq_true rfl)
        · exfalso; omega
      · exfalso; omega
    · exfalso; omega
set_option maxHeartbeats 4000000 in
set_option maxRecDepth 100000 in
theorem c_X5_dischargeBest (l : Launch) (D : va_G) (cA : Nat → ClassId) (q v : Nat) (b tb r m o d : Nat → Nat) (c : Int) (L : List ((Nat → Nat) × (Int → Int))) (z : Int) (X F Nx f S : Int → Int) (hI : Inv S) (hz : Inz S) (hc : 0 ≤ c ∧ c ≤ 4 ∧ c ≤ (L.length : Int) ∧ L.length ≤ 4) (hr : 0 < (RS S).length) : MI (U := ((Int → Int) × (Int → Int) × (Int → Int) × (Int → Int)) × List ((Nat → Nat) × (Int → Int))) l yX5_dischargeBest cX5_dischargeBest 1 (some .int) (rmN 26 9 333) D cA [.ref (q)] [prO q v b tb r m o c, svB cA v L, rgO r (d 0) z, dbO d, [(d 1, aJ (cA 0) 49 X)], [(d 2, aJ (cA 0) 49 F)], [(d 3, aJ (cA 0) 40 Nx)], [(r 1, aJ (cA 0) 2365 f)], bk cA b S] (fun x u => x = bestV S ∧ (∃ (k : Nat → Nat) (T : Int → Int), u.2 = svNx c L (k, cpS T S))) (fun u => [prO q v b tb r m o (if c < 4 then c + 1 else 4), svB cA v u.2, rgO r (d 0) ((RS S).length : Int), dbO d, [(d 1, aJ (cA 0) 49 u.1.1)], [(d 2, aJ (cA 0) 49 u.1.2.1)], [(d 3, aJ (cA 0) 40 u.1.2.2.1)], [(r 1, aJ (cA 0) 2365 u.1.2.2.2)], bk cA b (if best S = -1 then S else disB S)]) := by
  refine m_startI pn_X5 rfl (List.forall_mem_cons.mpr ⟨rfl, fun _ h => absurd h List.not_mem_nil⟩) (Nat.le_of_ble_eq_true rfl) ?_
  intro K C e1 e2 e3 hin hR
  subst e1 e2 e3
  have hN := hI.2.1
  have hQ := hI.1
  have hlen := RS_len hI
  show J K 0 0 [prO q v b tb r m o c, svB (kC K) v L, rgO r (d 0) z, dbO d, [(d 1, aJ ((kC K) 0) 49 X)], [(d 2, aJ ((kC K) 0) 49 F)], [(d 3, aJ ((kC K) 0) 40 Nx)], [(r 1, aJ ((kC K) 0) 2365 f)], bk (kC K) b S] [some (.ref (q))] 0 []
  refine j_aload_n C dX5_dischargeBest_0 rfl ?_
  refine j_perm (pm_9_0_2_3_4_5_6_7_8 _ _ _ _ _ _ _ _ _) ?_
  refine j_callVi C (As := []) (c_X5_countRings _ _ _ _ _ _ _ _ _ _ (d) _ _ _ _ _ _ _ (by first | assumption | omega)) 0 nf_X5_countRings (jb := 0) rfl rfl wL_X5_112 wI_X5_countRings wSe_X5_X5_countRings wIn_X5 wC_X5_countRings rfl rfl (by decide) dX5_dischargeBest_1 (Nat.le_of_ble_eq_true rfl) ⟨Nat.le_of_ble_eq_true rfl, Nat.le_of_ble_eq_true rfl⟩ (fun x1 u1 h1 => ?_)
  refine j_perm (pr_9_0_2_3_4_5_6_7_8 _ _ _ _ _ _ _ _ _) ?_
  obtain ⟨hx, hF⟩ := h1
  refine j_if_ne (tgt := 17) C dX5_dischargeBest_4 (by decide) (by omega) (by omega) (fun c4 => ?_) (fun c4 => ?_)
  · refine j_aload_n C dX5_dischargeBest_17 rfl ?_
    refine j_perm (pm_9_0_1_8 _ _ _ _ _ _ _ _ _) ?_
    refine j_callVv C (As := []) (c_X5_save _ _ _ _ _ _ _ _ _ _ (d) _ _ _ (by first | assumption | omega) (by first | assumption | omega)) 0 nf_X5_save (jb := 0) rfl rfl wL_X5_51 wI_X5_save wSe_X5_X5_save wIn_X5 wC_X5_save rfl rfl (by decide) dX5_dischargeBest_18 (Nat.le_of_ble_eq_true rfl) ⟨Nat.le_of_ble_eq_true rfl, Nat.le_of_ble_eq_true rfl⟩ (fun u18 h18 => ?_)
    refine j_perm (pr_9_0_1_8 _ _ _ _ _ _ _ _ _) ?_
    refine j_aload_n C dX5_dischargeBest_21 rfl ?_
    refine j_get C 0 0 2 rfl rfl rfl wU_X5 (by decide) wF_X5_22 rfl dX5_dischargeBest_22 ?_
    refine j_aload_n C dX5_dischargeBest_25 rfl ?_
    refine j_get C 0 0 0 rfl rfl rfl wU_X5 (by decide) wF_X5_12 rfl dX5_dischargeBest_26 ?_
    refine j_perm (pm_9_2_3_4_5_6_7_8 _ _ _ _ _ _ _ _ _) ?_
    refine j_callVi C (As := [.ref _]) (c_X4_releaseBest _ _ _ _ _ _ _ _ _ _ _ _ (by first | assumption | omega) (by exact hF)) 1 nf_X4_releaseBest (jb := 0) rfl rfl wL_X5_138 wI_X4_releaseBest wSe_X4_X4_releaseBest wIn_X4 wC_X4_releaseBest rfl rfl (by decide) dX5_dischargeBest_29 (Nat.le_of_ble_eq_true rfl) ⟨Nat.le_of_ble_eq_true rfl, Nat.le_of_ble_eq_true rfl⟩ (fun x29 u29 h29 => ?_)
    refine j_perm (pr_9_2_3_4_5_6_7_8 _ _ _ _ _ _ _ _ _) ?_
    exact hR (u1, u18) dX5_dischargeBest_32 (by exact ⟨h29, h18⟩) rfl (Nat.le_of_ble_eq_true rfl) (Nat.le_of_ble_eq_true rfl)
  · exfalso; omega
set_option maxHeartbeats 4000000 in
set_option maxRecDepth 100000 in
theorem c_X5_debt (l : Launch) (D : va_G) (cA : Nat → ClassId) (q v : Nat) (b tb r m o d : Nat → Nat) (c : Int) (S : Int → Int) (a e : Int) (hI : Inv S) (ha : 0 ≤ a ∧ a < S 0) (he : 0 ≤ e ∧ e < S 0) : MI (U := Unit) l yX5_debt cX5_debt 3 (some .int) (rmN 26 0 0) D cA [.ref (q), .int (iI a), .int (iI e)] [prO q v b tb r m o c, bk cA b S] (fun x _ => x = debS S a e) (fun _ => [prO q v b tb r m o c, bk cA b S]) := by
  refine m_startI pn_X5 rfl (List.forall_mem_cons.mpr ⟨rfl, List.forall_mem_cons.mpr ⟨rfl, List.forall_mem_cons.mpr ⟨rfl, fun _ h => absurd h List.not_mem_nil⟩⟩⟩) (Nat.le_of_ble_eq_true rfl) ?_
  intro K C e1 e2 e3 hin hR
  subst e1 e2 e3
  have hN := hI.2.1
  have hQ := hI.1
  show J K 0 0 [prO q v b tb r m o c, bk (kC K) b S] [some (.ref (q)), some (.int (iI a)), some (.int (iI e))] 0 []
  refine j_aload_n C dX5_debt_0 rfl ?_
  refine j_get C 0 0 0 rfl rfl rfl wU_X5 (by decide) wF_X5_12 rfl dX5_debt_1 ?_
  refine j_iload_n C dX5_debt_4 rfl ?_
  refine j_perm (pm_2_1 _ _) ?_
  refine j_callVi C (As := [.int (iI _)]) (c_X0_hasParty _ _ _ _ _ _ (by first | assumption | omega) (by first | assumption | omega)) 1 nf_X0_hasParty (jb := 0) rfl rfl wL_X5_62 wI_X0_hasParty wSe_X0_X0_hasParty wIn_X0 wC_X0_hasParty rfl rfl (by decide) dX5_debt_5 (Nat.le_of_ble_eq_true rfl) ⟨Nat.le_of_ble_eq_true rfl, Nat.le_of_ble_eq_true rfl⟩ (fun x5 u5 h5 => ?_)
  refine j_perm (pr_2_1 _ _) ?_
  refine j_if_eq (tgt := 22) C dX5_debt_8 (by decide) (by omega) (by omega) (fun c8 => ?_) (fun c8 => ?_)
  · exact absurd c8 (by rw [h5, if_pos (by omega)]; decide)
  · refine j_aload_n C dX5_debt_11 rfl ?_
    refine j_get C 0 0 0 rfl rfl rfl wU_X5 (by decide) wF_X5_12 rfl dX5_debt_12 ?_
    refine j_iload_n C dX5_debt_15 rfl ?_
    refine j_perm (pm_2_1 _ _) ?_
    refine j_callVi C (As := [.int (iI _)]) (c_X0_hasParty _ _ _ _ _ _ (by first | assumption | omega) (by first | assumption | omega)) 1 nf_X0_hasParty (jb := 0) rfl rfl wL_X5_62 wI_X0_hasParty wSe_X0_X0_hasParty wIn_X0 wC_X0_hasParty rfl rfl (by decide) dX5_debt_16 (Nat.le_of_ble_eq_true rfl) ⟨Nat.le_of_ble_eq_true rfl, Nat.le_of_ble_eq_true rfl⟩ (fun x16 u16 h16 => ?_)
    refine j_perm (pr_2_1 _ _) ?_
    refine j_if_ne (tgt := 32) C dX5_debt_19 (by decide) (by omega) (by omega) (fun c19 => ?_) (fun c19 => ?_)
    · refine j_aload_n C dX5_debt_32 rfl ?_
      refine j_get C 0 0 0 rfl rfl rfl wU_X5 (by decide) wF_X5_12 rfl dX5_debt_33 ?_
      refine j_iload_n C dX5_debt_36 rfl ?_
      refine j_iload_n C dX5_debt_37 rfl ?_
      refine j_perm (pm_2_1 _ _) ?_
      refine j_callVi C (As := [.int (iI _), .int (iI _)]) (c_X0_debtBetween _ _ _ _ _ _ _ (by first | assumption | omega) (by first | assumption | omega) (by first | assumption | omega)) 2 nf_X0_debtBetween (jb := 0) rfl rfl wL_X5_165 wI_X0_debtBetween wSe_X0_X0_debtBetween wIn_X0 wC_X0_debtBetween rfl rfl (by decide) dX5_debt_38 (Nat.le_of_ble_eq_true rfl) ⟨Nat.le_of_ble_eq_true rfl, Nat.le_of_ble_eq_true rfl⟩ (fun x38 u38 h38 => ?_)
      refine j_perm (pr_2_1 _ _) ?_
      exact hR () dX5_debt_41 (by first | trivial | omega | rfl) rfl (Nat.le_of_ble_eq_true rfl) (Nat.le_of_ble_eq_true rfl)
    · exact absurd c19 (by rw [h16, if_pos (by omega)]; decide)
set_option maxHeartbeats 4000000 in
set_option maxRecDepth 100000 in
theorem c_X5_net (l : Launch) (D : va_G) (cA : Nat → ClassId) (q v : Nat) (b tb r m o d : Nat → Nat) (c : Int) (S : Int → Int) (a : Int) (hI : Inv S) (ha : 0 ≤ a ∧ a < S 0) : MI (U := Unit) l yX5_net cX5_net 2 (some .int) (rmN 26 0 0) D cA [.ref (q), .int (iI a)] [prO q v b tb r m o c, bk cA b S] (fun x _ => x = netS S a) (fun _ => [prO q v b tb r m o c, bk cA b S]) := by
  refine m_startI pn_X5 rfl (List.forall_mem_cons.mpr ⟨rfl, List.forall_mem_cons.mpr ⟨rfl, fun _ h => absurd h List.not_mem_nil⟩⟩) (Nat.le_of_ble_eq_true rfl) ?_
  intro K C e1 e2 e3 hin hR
  subst e1 e2 e3
  have hN := hI.2.1
  have hQ := hI.1
  show J K 0 0 [prO q v b tb r m o c, bk (kC K) b S] [some (.ref (q)), some (.int (iI a))] 0 []
  refine j_aload_n C dX5_net_0 rfl ?_
  refine j_get C 0 0 0 rfl rfl rfl wU_X5 (by decide) wF_X5_12 rfl dX5_net_1 ?_
  refine j_iload_n C dX5_net_4 rfl ?_
  refine j_perm (pm_2_1 _ _) ?_
  refine j_callVi C (As := [.int (iI _)]) (c_X0_hasParty _ _ _ _ _ _ (by first | assumption | omega) (by first | assumption | omega)) 1 nf_X0_hasParty (jb := 0) rfl rfl wL_X5_62 wI_X0_hasParty wSe_X0_X0_hasParty wIn_X0 wC_X0_hasParty rfl rfl (by decide) dX5_net_5 (Nat.le_of_ble_eq_true rfl) ⟨Nat.le_of_ble_eq_true rfl, Nat.le_of_ble_eq_true rfl⟩ (fun x5 u5 h5 => ?_)
  refine j_perm (pr_2_1 _ _) ?_
  refine j_if_ne (tgt := 21) C dX5_net_8 (by decide) (by omega) (by omega) (fun c8 => ?_) (fun c8 => ?_)
  · refine j_aload_n C dX5_net_21 rfl ?_
    refine j_get C 0 0 0 rfl rfl rfl wU_X5 (by decide) wF_X5_12 rfl dX5_net_22 ?_
    refine j_iload_n C dX5_net_25 rfl ?_
    refine j_perm (pm_2_1 _ _) ?_
    refine j_callVi C (As := [.int (iI _)]) (c_X0_netOf _ _ _ _ _ _ (by first | assumption | omega) (by first | assumption | omega)) 1 nf_X0_netOf (jb := 0) rfl rfl wL_X5_169 wI_X0_netOf wSe_X0_X0_netOf wIn_X0 wC_X0_netOf rfl rfl (by decide) dX5_net_26 (Nat.le_of_ble_eq_true rfl) ⟨Nat.le_of_ble_eq_true rfl, Nat.le_of_ble_eq_true rfl⟩ (fun x26 u26 h26 => ?_)
    refine j_perm (pr_2_1 _ _) ?_
    exact hR () dX5_net_29 (by first | trivial | omega | rfl) rfl (Nat.le_of_ble_eq_true rfl) (Nat.le_of_ble_eq_true rfl)
  · exact absurd c8 (by rw [h5, if_pos (by omega)]; decide)
set_option maxHeartbeats 4000000 in
set_option maxRecDepth 100000 in
theorem c_X5_ring (l : Launch) (D : va_G) (cA : Nat → ClassId) (q v : Nat) (b tb r m o d : Nat → Nat) (c : Int) (z : Int) (X F Nx f S : Int → Int) (j k : Int) (hI : Inv S) (hj : 0 ≤ j ∧ j < ((RS S).length : Int)) (hk : 0 ≤ k ∧ k < 7) : MI (U := (Int → Int) × (Int → Int) × (Int → Int) × (Int → Int)) l yX5_ring cX5_ring 3 (some .int) (rmN 26 0 0) D cA [.ref (q), .int (iI j), .int (iI k)] [prO q v b tb r m o c, rgO r (d 0) z, dbO d, [(d 1, aJ (cA 0) 49 X)], [(d 2, aJ (cA 0) 49 F)], [(d 3, aJ (cA 0) 40 Nx)], [(r 1, aJ (cA 0) 2365 f)], bk cA b S] (fun x _ => x = ((RS S).getD j.toNat []).getD k.toNat (-1)) (fun u => [prO q v b tb r m o c, rgO r (d 0) ((RS S).length : Int), dbO d, [(d 1, aJ (cA 0) 49 u.1)], [(d 2, aJ (cA 0) 49 u.2.1)], [(d 3, aJ (cA 0) 40 u.2.2.1)], [(r 1, aJ (cA 0) 2365 u.2.2.2)], bk cA b S]) := by
  refine m_startI pn_X5 rfl (List.forall_mem_cons.mpr ⟨rfl, List.forall_mem_cons.mpr ⟨rfl, List.forall_mem_cons.mpr ⟨rfl, fun _ h => absurd h List.not_mem_nil⟩⟩⟩) (Nat.le_of_ble_eq_true rfl) ?_
  intro K C e1 e2 e3 hin hR
  subst e1 e2 e3
  have hN := hI.2.1
  have hQ := hI.1
  have hlen := RS_len hI
  have hpr := RS_get (S := S) hj.1 hj.2
  have hrb := room_bd hI hpr
  show J K 0 0 [prO q v b tb r m o c, rgO r (d 0) z, dbO d, [(d 1, aJ ((kC K) 0) 49 X)], [(d 2, aJ ((kC K) 0) 49 F)], [(d 3, aJ ((kC K) 0) 40 Nx)], [(r 1, aJ ((kC K) 0) 2365 f)], bk (kC K) b S] [some (.ref (q)), some (.int (iI j)), some (.int (iI k))] 0 []
  refine j_iload_n C dX5_ring_0 rfl ?_
  refine j_if_lt (tgt := 12) C dX5_ring_1 (by decide) (by omega) (by omega) (fun c1 => ?_) (fun c1 => ?_)
  · exfalso; omega
  · refine j_iload_n C dX5_ring_4 rfl ?_
    refine j_aload_n C dX5_ring_5 rfl ?_
    refine j_perm (pm_8_0_1_2_3_4_5_6_7 _ _ _ _ _ _ _ _) ?_
    refine j_callVi C (As := []) (c_X5_countRings _ _ _ _ _ _ _ _ _ _ (d) _ _ _ _ _ _ _ (by first | assumption | omega)) 0 nf_X5_countRings (jb := 0) rfl rfl wL_X5_112 wI_X5_countRings wSe_X5_X5_countRings wIn_X5 wC_X5_countRings rfl rfl (by decide) dX5_ring_6 (Nat.le_of_ble_eq_true rfl) ⟨Nat.le_of_ble_eq_true rfl, Nat.le_of_ble_eq_true rfl⟩ (fun x6 u6 h6 => ?_)
    refine j_perm (pr_8_0_1_2_3_4_5_6_7 _ _ _ _ _ _ _ _) ?_
    obtain ⟨hx, hF⟩ := h6
    refine j_icmp_lt (tgt := 22) C dX5_ring_9 (by decide) (by omega) (by omega) (by omega) (by omega) (fun c9 => ?_) (fun c9 => ?_)
    · refine j_iload_n C dX5_ring_22 rfl ?_
      refine j_if_lt (tgt := 32) C dX5_ring_23 (by decide) (by omega) (by omega) (fun c23 => ?_) (fun c23 => ?_)
      · exfalso; omega
      · refine j_iload_n C dX5_ring_26 rfl ?_
        refine j_bipush C dX5_ring_27 (by decide) ?_
        refine j_icmp_lt (tgt := 42) C dX5_ring_29 (by decide) (by omega) (by omega) (by omega) (by omega) (fun c29 => ?_) (fun c29 => ?_)
        · refine j_aload_n C dX5_ring_42 rfl ?_
          refine j_get C 0 0 2 rfl rfl rfl wU_X5 (by decide) wF_X5_22 rfl dX5_ring_43 ?_
          refine j_iload_n C dX5_ring_46 rfl ?_
          refine j_iload_n C dX5_ring_47 rfl ?_
          refine j_perm (pm_8_1_6 _ _ _ _ _ _ _ _) ?_
          refine j_callVi C (As := [.int (iI _), .int (iI _)]) (c_X4_partyAt _ _ _ _ _ _ _ _ _ _ _ _ _ (by first | assumption | omega) (by exact hF) (by first | assumption | omega) (by first | assumption | omega)) 2 nf_X4_partyAt (jb := 0) rfl rfl wL_X5_174 wI_X4_partyAt wSe_X4_X4_partyAt wIn_X4 wC_X4_partyAt rfl rfl (by decide) dX5_ring_48 (Nat.le_of_ble_eq_true rfl) ⟨Nat.le_of_ble_eq_true rfl, Nat.le_of_ble_eq_true rfl⟩ (fun x48 u48 h48 => ?_)
          refine j_perm (pr_8_1_6 _ _ _ _ _ _ _ _) ?_
          exact hR u6 dX5_ring_51 (by first | trivial | omega | rfl) rfl (Nat.le_of_ble_eq_true rfl) (Nat.le_of_ble_eq_true rfl)
        · exfalso; omega
    · exfalso; omega
set_option maxHeartbeats 4000000 in
set_option maxRecDepth 100000 in
theorem c_X5_room (l : Launch) (D : va_G) (cA : Nat → ClassId) (q v : Nat) (b tb r m o d : Nat → Nat) (c : Int) (z : Int) (X F Nx f S : Int → Int) (j : Int) (hI : Inv S) (hj : 0 ≤ j ∧ j < ((RS S).length : Int)) : MI (U := (Int → Int) × (Int → Int) × (Int → Int) × (Int → Int)) l yX5_room cX5_room 2 (some .int) (rmN 26 0 0) D cA [.ref (q), .int (iI j)] [prO q v b tb r m o c, rgO r (d 0) z, dbO d, [(d 1, aJ (cA 0) 49 X)], [(d 2, aJ (cA 0) 49 F)], [(d 3, aJ (cA 0) 40 Nx)], [(r 1, aJ (cA 0) 2365 f)], bk cA b S] (fun x _ => x = room S ((RS S).getD j.toNat [])) (fun u => [prO q v b tb r m o c, rgO r (d 0) ((RS S).length : Int), dbO d, [(d 1, aJ (cA 0) 49 u.1)], [(d 2, aJ (cA 0) 49 u.2.1)], [(d 3, aJ (cA 0) 40 u.2.2.1)], [(r 1, aJ (cA 0) 2365 u.2.2.2)], bk cA b S]) := by
  refine m_startI pn_X5 rfl (List.forall_mem_cons.mpr ⟨rfl, List.forall_mem_cons.mpr ⟨rfl, fun _ h => absurd h List.not_mem_nil⟩⟩) (Nat.le_of_ble_eq_true rfl) ?_
  intro K C e1 e2 e3 hin hR
  subst e1 e2 e3
  have hN := hI.2.1
  have hQ := hI.1
  have hlen := RS_len hI
  have hpr := RS_get (S := S) hj.1 hj.2
  have hrb := room_bd hI hpr
  show J K 0 0 [prO q v b tb r m o c, rgO r (d 0) z, dbO d, [(d 1, aJ ((kC K) 0) 49 X)], [(d 2, aJ ((kC K) 0) 49 F)], [(d 3, aJ ((kC K) 0) 40 Nx)], [(r 1, aJ ((kC K) 0) 2365 f)], bk (kC K) b S] [some (.ref (q)), some (.int (iI j))] 0 []
  refine j_iload_n C dX5_room_0 rfl ?_
  refine j_if_lt (tgt := 12) C dX5_room_1 (by decide) (by omega) (by omega) (fun c1 => ?_) (fun c1 => ?_)
  · exfalso; omega
  · refine j_iload_n C dX5_room_4 rfl ?_
    refine j_aload_n C dX5_room_5 rfl ?_
    refine j_perm (pm_8_0_1_2_3_4_5_6_7 _ _ _ _ _ _ _ _) ?_
    refine j_callVi C (As := []) (c_X5_countRings _ _ _ _ _ _ _ _ _ _ (d) _ _ _ _ _ _ _ (by first | assumption | omega)) 0 nf_X5_countRings (jb := 0) rfl rfl wL_X5_112 wI_X5_countRings wSe_X5_X5_countRings wIn_X5 wC_X5_countRings rfl rfl (by decide) dX5_room_6 (Nat.le_of_ble_eq_true rfl) ⟨Nat.le_of_ble_eq_true rfl, Nat.le_of_ble_eq_true rfl⟩ (fun x6 u6 h6 => ?_)
    refine j_perm (pr_8_0_1_2_3_4_5_6_7 _ _ _ _ _ _ _ _) ?_
    obtain ⟨hx, hF⟩ := h6
    refine j_icmp_lt (tgt := 22) C dX5_room_9 (by decide) (by omega) (by omega) (by omega) (by omega) (fun c9 => ?_) (fun c9 => ?_)
    · refine j_aload_n C dX5_room_22 rfl ?_
      refine j_get C 0 0 2 rfl rfl rfl wU_X5 (by decide) wF_X5_22 rfl dX5_room_23 ?_
      refine j_iload_n C dX5_room_26 rfl ?_
      refine j_perm (pm_8_1_2_3_4_5_6 _ _ _ _ _ _ _ _) ?_
      refine j_callVi C (As := [.int (iI _)]) (c_X4_roomAt _ _ _ _ _ _ _ _ _ _ _ _ (by first | assumption | omega) (by exact hF) (by first | assumption | omega)) 1 nf_X4_roomAt (jb := 0) rfl rfl wL_X5_126 wI_X4_roomAt wSe_X4_X4_roomAt wIn_X4 wC_X4_roomAt rfl rfl (by decide) dX5_room_27 (Nat.le_of_ble_eq_true rfl) ⟨Nat.le_of_ble_eq_true rfl, Nat.le_of_ble_eq_true rfl⟩ (fun x27 u27 h27 => ?_)
      refine j_perm (pr_8_1_2_3_4_5_6 _ _ _ _ _ _ _ _) ?_
      exact hR u6 dX5_room_30 (by first | trivial | omega | rfl) rfl (Nat.le_of_ble_eq_true rfl) (Nat.le_of_ble_eq_true rfl)
    · exfalso; omega
set_option maxHeartbeats 4000000 in
set_option maxRecDepth 100000 in
theorem c_X5_saving (l : Launch) (D : va_G) (cA : Nat → ClassId) (q v : Nat) (b tb r m o d : Nat → Nat) (c : Int) (z : Int) (X F Nx f S : Int → Int) (j : Int) (hI : Inv S) (hj : 0 ≤ j ∧ j < ((RS S).length : Int)) : MI (U := (Int → Int) × (Int → Int) × (Int → Int) × (Int → Int)) l yX5_saving cX5_saving 2 (some .int) (rmN 26 0 0) D cA [.ref (q), .int (iI j)] [prO q v b tb r m o c, rgO r (d 0) z, dbO d, [(d 1, aJ (cA 0) 49 X)], [(d 2, aJ (cA 0) 49 F)], [(d 3, aJ (cA 0) 40 Nx)], [(r 1, aJ (cA 0) 2365 f)], bk cA b S] (fun x _ => x = savP S ((RS S).getD j.toNat []) (room S ((RS S).getD j.toNat []))) (fun u => [prO q v b tb r m o c, rgO r (d 0) ((RS S).length : Int), dbO d, [(d 1, aJ (cA 0) 49 u.1)], [(d 2, aJ (cA 0) 49 u.2.1)], [(d 3, aJ (cA 0) 40 u.2.2.1)], [(r 1, aJ (cA 0) 2365 u.2.2.2)], bk cA b S]) := by
  refine m_startI pn_X5 rfl (List.forall_mem_cons.mpr ⟨rfl, List.forall_mem_cons.mpr ⟨rfl, fun _ h => absurd h List.not_mem_nil⟩⟩) (Nat.le_of_ble_eq_true rfl) ?_
  intro K C e1 e2 e3 hin hR
  subst e1 e2 e3
  have hN := hI.2.1
  have hQ := hI.1
  have hlen := RS_len hI
  have hpr := RS_get (S := S) hj.1 hj.2
  have hrb := room_bd hI hpr
  show J K 0 0 [prO q v b tb r m o c, rgO r (d 0) z, dbO d, [(d 1, aJ ((kC K) 0) 49 X)], [(d 2, aJ ((kC K) 0) 49 F)], [(d 3, aJ ((kC K) 0) 40 Nx)], [(r 1, aJ ((kC K) 0) 2365 f)], bk (kC K) b S] [some (.ref (q)), some (.int (iI j))] 0 []
  refine j_iload_n C dX5_saving_0 rfl ?_
  refine j_if_lt (tgt := 12) C dX5_saving_1 (by decide) (by omega) (by omega) (fun c1 => ?_) (fun c1 => ?_)
  · exfalso; omega
  · refine j_iload_n C dX5_saving_4 rfl ?_
    refine j_aload_n C dX5_saving_5 rfl ?_
    refine j_perm (pm_8_0_1_2_3_4_5_6_7 _ _ _ _ _ _ _ _) ?_
    refine j_callVi C (As := []) (c_X5_countRings _ _ _ _ _ _ _ _ _ _ (d) _ _ _ _ _ _ _ (by first | assumption | omega)) 0 nf_X5_countRings (jb := 0) rfl rfl wL_X5_112 wI_X5_countRings wSe_X5_X5_countRings wIn_X5 wC_X5_countRings rfl rfl (by decide) dX5_saving_6 (Nat.le_of_ble_eq_true rfl) ⟨Nat.le_of_ble_eq_true rfl, Nat.le_of_ble_eq_true rfl⟩ (fun x6 u6 h6 => ?_)
    refine j_perm (pr_8_0_1_2_3_4_5_6_7 _ _ _ _ _ _ _ _) ?_
    obtain ⟨hx, hF⟩ := h6
    refine j_icmp_lt (tgt := 22) C dX5_saving_9 (by decide) (by omega) (by omega) (by omega) (by omega) (fun c9 => ?_) (fun c9 => ?_)
    · refine j_aload_n C dX5_saving_22 rfl ?_
      refine j_get C 0 0 2 rfl rfl rfl wU_X5 (by decide) wF_X5_22 rfl dX5_saving_23 ?_
      refine j_aload_n C dX5_saving_26 rfl ?_
      refine j_get C 0 0 0 rfl rfl rfl wU_X5 (by decide) wF_X5_12 rfl dX5_saving_27 ?_
      refine j_iload_n C dX5_saving_30 rfl ?_
      refine j_aload_n C dX5_saving_31 rfl ?_
      refine j_get C 0 0 2 rfl rfl rfl wU_X5 (by decide) wF_X5_22 rfl dX5_saving_32 ?_
      refine j_iload_n C dX5_saving_35 rfl ?_
      refine j_perm (pm_8_1_2_3_4_5_6 _ _ _ _ _ _ _ _) ?_
      refine j_callVi C (As := [.int (iI _)]) (c_X4_roomAt _ _ _ _ _ _ _ _ _ _ _ _ (by first | assumption | omega) (by exact hF) (by first | assumption | omega)) 1 nf_X4_roomAt (jb := 0) rfl rfl wL_X5_126 wI_X4_roomAt wSe_X4_X4_roomAt wIn_X4 wC_X4_roomAt rfl rfl (by decide) dX5_saving_36 (Nat.le_of_ble_eq_true rfl) ⟨Nat.le_of_ble_eq_true rfl, Nat.le_of_ble_eq_true rfl⟩ (fun x36 u36 h36 => ?_)
      refine j_perm (pr_8_1_2_3_4_5_6 _ _ _ _ _ _ _ _) ?_
      subst h36
      refine j_perm (pm_8_1_2_3_4_5_6_7 _ _ _ _ _ _ _ _) ?_
      refine j_callVi C (As := [.ref _, .int (iI _), .int (iI _)]) (c_X4_savingAt _ _ _ _ _ _ _ _ _ _ _ _ _ _ (by first | assumption | omega) (by exact hF) (by first | assumption | omega) (by omega)) 3 nf_X4_savingAt (jb := 0) rfl rfl wL_X5_206 wI_X4_savingAt wSe_X4_X4_savingAt wIn_X4 wC_X4_savingAt rfl rfl (by decide) dX5_saving_39 (Nat.le_of_ble_eq_true rfl) ⟨Nat.le_of_ble_eq_true rfl, Nat.le_of_ble_eq_true rfl⟩ (fun x39 u39 h39 => ?_)
      refine j_perm (pr_8_1_2_3_4_5_6_7 _ _ _ _ _ _ _ _) ?_
      exact hR u6 dX5_saving_42 (by first | trivial | omega | rfl) rfl (Nat.le_of_ble_eq_true rfl) (Nat.le_of_ble_eq_true rfl)
    · exfalso; omega
set_option maxHeartbeats 4000000 in
set_option maxRecDepth 100000 in
theorem c_X5_undo (l : Launch) (D : va_G) (cA : Nat → ClassId) (q v : Nat) (b tb r m o d : Nat → Nat) (c : Int) (L1 L2 : List ((Nat → Nat) × (Int → Int))) (k : Nat → Nat) (T S : Int → Int) (hz : Inz T) (hc : c = ((L1.length : Nat) : Int) + 1 ∧ c ≤ 4) : MI (U := Unit) l yX5_undo cX5_undo 2 (some .int) (rmN 26 0 0) D cA [.ref (q)] [prO q v b tb r m o c, svB cA v (L1 ++ (k, T) :: L2), bk cA b S] (fun x _ => x = c - 1) (fun _ => [prO q v b tb r m o (c - 1), svB cA v (L1 ++ (k, T) :: L2), bk cA b (cpS S T)]) := by
  refine m_startI pn_X5 rfl (List.forall_mem_cons.mpr ⟨rfl, fun _ h => absurd h List.not_mem_nil⟩) (Nat.le_of_ble_eq_true rfl) ?_
  intro K C e1 e2 e3 hin hR
  subst e1 e2 e3
  refine j_flat (svB_f (p := (k, T))) ?_
  show J K 0 0 [prO q v b tb r m o c, [(v, rJ ((kC K) 2) 4 (svL (L1 ++ (k, T) :: L2)))], (L1.map (fun p => bk (kC K) p.1 p.2)).flatten, bk (kC K) k T, (L2.map (fun p => bk (kC K) p.1 p.2)).flatten, bk (kC K) b S] [some (.ref (q)), none] 0 []
  refine j_aload_n C dX5_undo_0 rfl ?_
  refine j_get C 0 0 6 rfl rfl rfl wU_X5 (by decide) wF_X5_262 rfl dX5_undo_1 ?_
  refine j_if_le (tgt := 29) C dX5_undo_4 (by decide) (by omega) (by omega) (fun c4 => ?_) (fun c4 => ?_)
  · exfalso; omega
  · refine j_aload_n C dX5_undo_7 rfl ?_
    refine j_get C 0 0 6 rfl rfl rfl wU_X5 (by decide) wF_X5_262 rfl dX5_undo_8 ?_
    refine j_iconst C dX5_undo_11 ?_
    refine j_icmp_gt (tgt := 29) C dX5_undo_12 (by decide) (by omega) (by omega) (by omega) (by omega) (fun c12 => ?_) (fun c12 => ?_)
    · exfalso; omega
    · refine j_aload_n C dX5_undo_15 rfl ?_
      refine j_get C 0 0 5 rfl rfl rfl wU_X5 (by decide) wF_X5_40 rfl dX5_undo_16 ?_
      refine j_aload_n C dX5_undo_19 rfl ?_
      refine j_get C 0 0 6 rfl rfl rfl wU_X5 (by decide) wF_X5_262 rfl dX5_undo_20 ?_
      refine j_iconst C dX5_undo_23 ?_
      refine j_isub C dX5_undo_24 ?_
      refine j_aaldR C 1 0 rfl rfl dX5_undo_25 (by decide) (by omega) (by omega) (by rw [show (c - 1).toNat = L1.length by omega]; exact svL_ap) ?_
      refine j_goto (tgt := 30) C dX5_undo_26 (by decide) ?_
      refine j_astn_1 C dX5_undo_30 rfl ?_
      refine j_aload_n C dX5_undo_31 rfl ?_
      refine j_ifnn (tgt := 46) C dX5_undo_32 (by decide) ?_
      refine j_aload_n C dX5_undo_46 rfl ?_
      refine j_get C 0 0 0 rfl rfl rfl wU_X5 (by decide) wF_X5_12 rfl dX5_undo_47 ?_
      refine j_aload_n C dX5_undo_50 rfl ?_
      refine j_perm (pm_6_5_3 _ _ _ _ _ _) ?_
      refine j_callVv C (As := [.ref _]) (c_X0_copyFrom _ _ _ _ _ _ _ (by first | assumption | omega)) 1 nf_X0_copyFrom (jb := 0) rfl rfl wL_X5_216 wI_X0_copyFrom wSe_X0_X0_copyFrom wIn_X0 wC_X0_copyFrom rfl rfl (by decide) dX5_undo_51 (Nat.le_of_ble_eq_true rfl) ⟨Nat.le_of_ble_eq_true rfl, Nat.le_of_ble_eq_true rfl⟩ (fun u51 h51 => ?_)
      refine j_perm (pr_6_5_3 _ _ _ _ _ _) ?_
      refine j_aload_n C dX5_undo_54 rfl ?_
      refine j_dup C dX5_undo_55 rfl ?_
      refine j_get C 0 0 6 rfl rfl rfl wU_X5 (by decide) wF_X5_262 rfl dX5_undo_56 ?_
      refine j_iconst C dX5_undo_59 ?_
      refine j_isub C dX5_undo_60 ?_
      refine j_put_p0 C 0 6 rfl prO_put rfl wU_X5 tyX5_ok nmX5 (by decide) wF_X5_262 rfl rfl rfl (Nat.le_of_ble_eq_true rfl) dX5_undo_61 ?_
      refine j_aload_n C dX5_undo_64 rfl ?_
      refine j_get C 0 0 6 rfl rfl rfl wU_X5 (by decide) wF_X5_262 rfl dX5_undo_65 ?_
      refine j_flat (svB_f (p := (k, T))).symm ?_
      exact hR () dX5_undo_68 (by rfl) rfl (Nat.le_of_ble_eq_true rfl) (Nat.le_of_ble_eq_true rfl)
