/-! the remainder: pushes along ways; its least cost -/
theorem pm_3_0_1 (B0 B1 B2 : va_W) : [B0, B1, B2].Perm ([B0, B1] ++ [B2]) := List.Perm.trans (List.Perm.refl _) (List.Perm.cons _ (List.Perm.refl _))
theorem pr_3_0_1 (B0 B1 B2 : va_W) : ([B0, B1] ++ [B2]).Perm [B0, B1, B2] := (pm_3_0_1 B0 B1 B2).symm
theorem pm_3_0_1_2 (B0 B1 B2 : va_W) : [B0, B1, B2].Perm ([B0, B1, B2] ++ []) := List.Perm.trans (List.Perm.refl _) (List.Perm.trans (List.Perm.cons _ (List.Perm.refl _)) (List.Perm.cons _ (List.Perm.cons _ (List.Perm.refl _))))
theorem pr_3_0_1_2 (B0 B1 B2 : va_W) : ([B0, B1, B2] ++ []).Perm [B0, B1, B2] := (pm_3_0_1_2 B0 B1 B2).symm
theorem pm_5_0_3 (B0 B1 B2 B3 B4 : va_W) : [B0, B1, B2, B3, B4].Perm ([B0, B3] ++ [B1, B2, B4]) := List.Perm.trans (List.Perm.refl _) (List.Perm.cons _ (List.perm_middle (l₁ := [B1, B2]) (a := B3) (l₂ := [B4])))
theorem pr_5_0_3 (B0 B1 B2 B3 B4 : va_W) : ([B0, B3] ++ [B1, B2, B4]).Perm [B0, B1, B2, B3, B4] := (pm_5_0_3 B0 B1 B2 B3 B4).symm
theorem pm_5_0_3_4 (B0 B1 B2 B3 B4 : va_W) : [B0, B1, B2, B3, B4].Perm ([B0, B3, B4] ++ [B1, B2]) := List.Perm.trans (List.Perm.refl _) (List.Perm.trans (List.Perm.cons _ (List.perm_middle (l₁ := [B1, B2]) (a := B3) (l₂ := [B4]))) (List.Perm.cons _ (List.Perm.cons _ (List.perm_middle (l₁ := [B1, B2]) (a := B4) (l₂ := [])))))
theorem pr_5_0_3_4 (B0 B1 B2 B3 B4 : va_W) : ([B0, B3, B4] ++ [B1, B2]).Perm [B0, B1, B2, B3, B4] := (pm_5_0_3_4 B0 B1 B2 B3 B4).symm
theorem pm_6_0_1_2_4_5 (B0 B1 B2 B3 B4 B5 : va_W) : [B0, B1, B2, B3, B4, B5].Perm ([B0, B1, B2, B4, B5] ++ [B3]) := List.Perm.trans (List.Perm.refl _) (List.Perm.trans (List.Perm.cons _ (List.Perm.refl _)) (List.Perm.trans (List.Perm.cons _ (List.Perm.cons _ (List.Perm.refl _))) (List.Perm.trans (List.Perm.cons _ (List.Perm.cons _ (List.Perm.cons _ (List.perm_middle (l₁ := [B3]) (a := B4) (l₂ := [B5]))))) (List.Perm.cons _ (List.Perm.cons _ (List.Perm.cons _ (List.Perm.cons _ (List.perm_middle (l₁ := [B3]) (a := B5) (l₂ := [])))))))))
theorem pr_6_0_1_2_4_5 (B0 B1 B2 B3 B4 B5 : va_W) : ([B0, B1, B2, B4, B5] ++ [B3]).Perm [B0, B1, B2, B3, B4, B5] := (pm_6_0_1_2_4_5 B0 B1 B2 B3 B4 B5).symm
theorem pm_6_0_2 (B0 B1 B2 B3 B4 B5 : va_W) : [B0, B1, B2, B3, B4, B5].Perm ([B0, B2] ++ [B1, B3, B4, B5]) := List.Perm.trans (List.Perm.refl _) (List.Perm.cons _ (List.perm_middle (l₁ := [B1]) (a := B2) (l₂ := [B3, B4, B5])))
theorem pr_6_0_2 (B0 B1 B2 B3 B4 B5 : va_W) : ([B0, B2] ++ [B1, B3, B4, B5]).Perm [B0, B1, B2, B3, B4, B5] := (pm_6_0_2 B0 B1 B2 B3 B4 B5).symm
theorem pm_6_0_4 (B0 B1 B2 B3 B4 B5 : va_W) : [B0, B1, B2, B3, B4, B5].Perm ([B0, B4] ++ [B1, B2, B3, B5]) := List.Perm.trans (List.Perm.refl _) (List.Perm.cons _ (List.perm_middle (l₁ := [B1, B2, B3]) (a := B4) (l₂ := [B5])))
theorem pr_6_0_4 (B0 B1 B2 B3 B4 B5 : va_W) : ([B0, B4] ++ [B1, B2, B3, B5]).Perm [B0, B1, B2, B3, B4, B5] := (pm_6_0_4 B0 B1 B2 B3 B4 B5).symm
theorem pm_6_0_4_5 (B0 B1 B2 B3 B4 B5 : va_W) : [B0, B1, B2, B3, B4, B5].Perm ([B0, B4, B5] ++ [B1, B2, B3]) := List.Perm.trans (List.Perm.refl _) (List.Perm.trans (List.Perm.cons _ (List.perm_middle (l₁ := [B1, B2, B3]) (a := B4) (l₂ := [B5]))) (List.Perm.cons _ (List.Perm.cons _ (List.perm_middle (l₁ := [B1, B2, B3]) (a := B5) (l₂ := [])))))
theorem pr_6_0_4_5 (B0 B1 B2 B3 B4 B5 : va_W) : ([B0, B4, B5] ++ [B1, B2, B3]).Perm [B0, B1, B2, B3, B4, B5] := (pm_6_0_4_5 B0 B1 B2 B3 B4 B5).symm
set_option maxHeartbeats 4000000 in
set_option maxRecDepth 100000 in
theorem c_X3_nearestEnd (l : Launch) (D : va_G) (cA : Nat → ClassId) (m : Nat → Nat) (E D1 e G : Int → Int) (hE : AG 7 E e) (hD : AG 7 D1 G) (he : ∀ p : Int, 0 ≤ p → p < 7 → -40000 ≤ e p ∧ e p ≤ 40000) (hDb : ∀ p : Int, 0 ≤ p → p < 7 → G p = FAR ∨ (0 ≤ G p ∧ G p ≤ 54)) : MI (U := Unit) l yX3_nearestEnd cX3_nearestEnd 4 (some .int) (rmN 1 0 0) D cA [.ref (m 0)] [rmO m, [(m 2, aJ (cA 0) 7 E)], [(m 3, aJ (cA 0) 7 D1)]] (fun x _ => x = near G e) (fun _ => [rmO m, [(m 2, aJ (cA 0) 7 E)], [(m 3, aJ (cA 0) 7 D1)]]) := by
  refine m_startI pn_X3 rfl (List.forall_mem_cons.mpr ⟨rfl, fun _ h => absurd h List.not_mem_nil⟩) (Nat.le_of_ble_eq_true rfl) ?_
  intro K C e1 e2 e3 hin hR
  subst e1 e2 e3
  show J K 0 0 [rmO m, [(m 2, aJ ((kC K) 0) 7 E)], [(m 3, aJ ((kC K) 0) 7 D1)]] [some (.ref (m 0)), none, none, none] 0 []
  refine j_iconst C dX3_nearestEnd_0 ?_
  refine j_istn_1 C dX3_nearestEnd_1 rfl ?_
  refine j_ldc C 1000000 (by decide) wN_X3_70 dX3_nearestEnd_2 ?_
  refine j_istn_2 C dX3_nearestEnd_4 rfl ?_
  refine j_iconst C dX3_nearestEnd_5 ?_
  refine j_istn_3 C dX3_nearestEnd_6 rfl ?_
  have L7 : ∀ (fuel : Nat) (i z v : Int) (hi : 0 ≤ i ∧ i ≤ 7) (hz : (z, v) = nrN G e i.toNat) (hv : 0 ≤ v ∧ v ≤ 1000000) (hf7 : (7 - i).toNat < fuel), J K 0 0 [rmO m, [(m 2, aJ ((kC K) 0) 7 E)], [(m 3, aJ ((kC K) 0) 7 D1)]] [some (.ref (m 0)), some (.int (iI z)), some (.int (iI v)), some (.int (iI i))] 7 [] := by
    intro fuel
    induction fuel with
    | zero => intro i z v hi hz hv hf7; exact absurd hf7 (Nat.not_lt_zero _)
    | succ fuel ih7 =>
      intro i z v hi hz hv hf7
      refine j_iload_n C dX3_nearestEnd_7 rfl ?_
      refine j_bipush C dX3_nearestEnd_8 (by decide) ?_
      refine j_icmp_ge (tgt := 47) C dX3_nearestEnd_10 (by decide) (by omega) (by omega) (by omega) (by omega) (fun c10 => ?_) (fun c10 => ?_)
      · refine j_iload_n C dX3_nearestEnd_47 rfl ?_
        refine hR () dX3_nearestEnd_48 ?_ rfl (Nat.le_of_ble_eq_true rfl) (Nat.le_of_ble_eq_true rfl)
        show z = (nrN G e 7).1
        rw [show i.toNat = 7 by omega] at hz
        rw [← hz]
      · have hEi := hE i hi.1 (by omega)
        have hDi := hD i hi.1 (by omega)
        have hei := he i hi.1 (by omega)
        have hdi := hDb i hi.1 (by omega)
        unfold FAR at hdi
        refine j_aload_n C dX3_nearestEnd_13 rfl ?_
        refine j_get C 0 0 1 rfl rfl rfl wU_X3 (by decide) wF_X3_15 rfl dX3_nearestEnd_14 ?_
        refine j_iload_n C dX3_nearestEnd_17 rfl ?_
        refine j_iald C 1 0 rfl rfl dX3_nearestEnd_18 (by decide) (by omega) (by omega) ?_
        refine j_if_ge (tgt := 41) C dX3_nearestEnd_19 (by decide) (by omega) (by omega) (fun c19 => ?_) (fun c19 => ?_)
        · refine j_iinc_3 C dX3_nearestEnd_41 rfl ?_
          refine j_goto (tgt := 7) C dX3_nearestEnd_44 (by decide) ?_
          exact ih7 _ _ _ (by omega) (by rw [show (i + 1).toNat = i.toNat + 1 by omega, nrN, ← hz, show ((i.toNat : Nat) : Int) = i by omega]; first | (rw [if_pos ⟨by omega, by dsimp only; omega⟩, hDi]) | (rw [if_neg (by dsimp only; omega)])) (by omega) (by omega)
        · refine j_aload_n C dX3_nearestEnd_22 rfl ?_
          refine j_get C 0 0 2 rfl rfl rfl wU_X3 (by decide) wF_X3_18 rfl dX3_nearestEnd_23 ?_
          refine j_iload_n C dX3_nearestEnd_26 rfl ?_
          refine j_iald C 2 0 rfl rfl dX3_nearestEnd_27 (by decide) (by omega) (by omega) ?_
          refine j_iload_n C dX3_nearestEnd_28 rfl ?_
          refine j_icmp_ge (tgt := 41) C dX3_nearestEnd_29 (by decide) (by omega) (by omega) (by omega) (by omega) (fun c29 => ?_) (fun c29 => ?_)
          · refine j_iinc_3 C dX3_nearestEnd_41 rfl ?_
            refine j_goto (tgt := 7) C dX3_nearestEnd_44 (by decide) ?_
            exact ih7 _ _ _ (by omega) (by rw [show (i + 1).toNat = i.toNat + 1 by omega, nrN, ← hz, show ((i.toNat : Nat) : Int) = i by omega]; first | (rw [if_pos ⟨by omega, by dsimp only; omega⟩, hDi]) | (rw [if_neg (by dsimp only; omega)])) (by omega) (by omega)
          · refine j_iload_n C dX3_nearestEnd_32 rfl ?_
            refine j_istn_1 C dX3_nearestEnd_33 rfl ?_
            refine j_aload_n C dX3_nearestEnd_34 rfl ?_
            refine j_get C 0 0 2 rfl rfl rfl wU_X3 (by decide) wF_X3_18 rfl dX3_nearestEnd_35 ?_
            refine j_iload_n C dX3_nearestEnd_38 rfl ?_
            refine j_iald C 2 0 rfl rfl dX3_nearestEnd_39 (by decide) (by omega) (by omega) ?_
            refine j_istn_2 C dX3_nearestEnd_40 rfl ?_
            refine j_iinc_3 C dX3_nearestEnd_41 rfl ?_
            refine j_goto (tgt := 7) C dX3_nearestEnd_44 (by decide) ?_
            exact ih7 _ _ _ (by omega) (by rw [show (i + 1).toNat = i.toNat + 1 by omega, nrN, ← hz, show ((i.toNat : Nat) : Int) = i by omega]; first | (rw [if_pos ⟨by omega, by dsimp only; omega⟩, hDi]) | (rw [if_neg (by dsimp only; omega)])) (by omega) (by omega)
  exact L7 _ _ _ _ (by omega) (by rfl) (by omega) (Nat.lt_succ_self _)
set_option maxHeartbeats 4000000 in
set_option maxRecDepth 100000 in
theorem c_X3_promiseTo (l : Launch) (D : va_G) (cA : Nat → ClassId) (m : Nat → Nat) (B1 : Int → Int) (p : Int) (hp : 0 ≤ p ∧ p < 7) (hB : -1 ≤ B1 p ∧ B1 p < 40) : MI (U := Unit) l yX3_promiseTo cX3_promiseTo 3 (some .int) (rmN 2 0 0) D cA [.ref (m 0), .int (iI p)] [rmO m, [(m 4, aJ (cA 0) 7 B1)]] (fun x _ => x = B1 p) (fun _ => [rmO m, [(m 4, aJ (cA 0) 7 B1)]]) := by
  refine m_startI pn_X3 rfl (List.forall_mem_cons.mpr ⟨rfl, List.forall_mem_cons.mpr ⟨rfl, fun _ h => absurd h List.not_mem_nil⟩⟩) (Nat.le_of_ble_eq_true rfl) ?_
  intro K C e1 e2 e3 hin hR
  subst e1 e2 e3
  show J K 0 0 [rmO m, [(m 4, aJ ((kC K) 0) 7 B1)]] [some (.ref (m 0)), some (.int (iI p)), none] 0 []
  refine j_iload_n C dX3_promiseTo_0 rfl ?_
  refine j_perm (pm_2 _ _) ?_
  refine j_callSNi C (As := [.int (iI _)]) (c_X5_isParty _ _ _ _ (by first | assumption | omega)) 1 nf_X5_isParty.2 wLN_X3_67 wS_X5_isParty wIn_X5 wC_X5_isParty rfl rfl (by decide) dX3_promiseTo_1 (Nat.le_of_ble_eq_true rfl) ⟨Nat.le_of_ble_eq_true rfl, Nat.le_of_ble_eq_true rfl⟩ (fun x1 u1 h1 => ?_)
  refine j_perm (pr_2 _ _) ?_
  refine j_if_eq (tgt := 16) C dX3_promiseTo_4 (by decide) (by omega) (by omega) (fun c4 => ?_) (fun c4 => ?_)
  · exact absurd c4 (by rw [h1, if_pos (by omega)]; decide)
  · refine j_aload_n C dX3_promiseTo_7 rfl ?_
    refine j_get C 0 0 3 rfl rfl rfl wU_X3 (by decide) wF_X3_21 rfl dX3_promiseTo_8 ?_
    refine j_iload_n C dX3_promiseTo_11 rfl ?_
    refine j_iald C 1 0 rfl rfl dX3_promiseTo_12 (by decide) (by omega) (by omega) ?_
    refine j_goto (tgt := 17) C dX3_promiseTo_13 (by decide) ?_
    refine j_istn_2 C dX3_promiseTo_17 rfl ?_
    refine j_iload_n C dX3_promiseTo_18 rfl ?_
    refine j_perm (pm_2 _ _) ?_
    refine j_callSNi C (As := [.int (iI _)]) (c_X5_isSlot _ _ _ _ (by first | assumption | omega)) 1 nf_X5_isSlot.2 wLN_X3_102 wS_X5_isSlot wIn_X5 wC_X5_isSlot rfl rfl (by decide) dX3_promiseTo_19 (Nat.le_of_ble_eq_true rfl) ⟨Nat.le_of_ble_eq_true rfl, Nat.le_of_ble_eq_true rfl⟩ (fun x19 u19 h19 => ?_)
    refine j_perm (pr_2 _ _) ?_
    refine j_if_eq (tgt := 29) C dX3_promiseTo_22 (by decide) (by omega) (by omega) (fun c22 => ?_) (fun c22 => ?_)
    · refine j_iconst C dX3_promiseTo_29 ?_
      refine hR () dX3_promiseTo_30 ?_ rfl (Nat.le_of_ble_eq_true rfl) (Nat.le_of_ble_eq_true rfl)
      first | rfl | (show (-1 : Int) = _; rw [h19] at c22; split at c22 <;> omega)
    · refine j_iload_n C dX3_promiseTo_25 rfl ?_
      refine j_goto (tgt := 30) C dX3_promiseTo_26 (by decide) ?_
      refine hR () dX3_promiseTo_30 ?_ rfl (Nat.le_of_ble_eq_true rfl) (Nat.le_of_ble_eq_true rfl)
      first | rfl | (show (-1 : Int) = _; rw [h19] at c22; split at c22 <;> omega)
set_option maxHeartbeats 4000000 in
set_option maxRecDepth 100000 in
theorem c_X3_before (l : Launch) (D : va_G) (cA : Nat → ClassId) (m : Nat → Nat) (B1 : Int → Int) (b : Nat → Nat) (S : Int → Int) (p v : Int) (hI : Inv S) (hp : 0 ≤ p ∧ p < 7) (hv : 0 ≤ v / 2 ∧ v / 2 < S 1) (hB : B1 p = v / 2) (hw : (tO S (v / 2) = p ∧ v % 2 = 0 ∧ ahd S v = fr S (v / 2)) ∨ (tO S (v / 2) ≠ p ∧ v % 2 = 1 ∧ ahd S v = tO S (v / 2))) : MI (U := Unit) l yX3_before cX3_before 4 (some .int) (rmN 3 0 0) D cA [.ref (m 0), .ref (b 0), .int (iI p)] [rmO m, [(m 4, aJ (cA 0) 7 B1)], bk cA b S] (fun x _ => x = ahd S v) (fun _ => [rmO m, [(m 4, aJ (cA 0) 7 B1)], bk cA b S]) := by
  refine m_startI pn_X3 rfl (List.forall_mem_cons.mpr ⟨rfl, List.forall_mem_cons.mpr ⟨rfl, List.forall_mem_cons.mpr ⟨rfl, fun _ h => absurd h List.not_mem_nil⟩⟩⟩) (Nat.le_of_ble_eq_true rfl) ?_
  intro K C e1 e2 e3 hin hR
  subst e1 e2 e3
  have hN := hI.2.1
  have f := hI.2.2 _ hv.1 hv.2
  have g := hI.1
  show J K 0 0 [rmO m, [(m 4, aJ ((kC K) 0) 7 B1)], bk (kC K) b S] [some (.ref (m 0)), some (.ref (b 0)), some (.int (iI p)), none] 0 []
  refine j_aload_n C dX3_before_0 rfl ?_
  refine j_iload_n C dX3_before_1 rfl ?_
  refine j_perm (pm_3_0_1 _ _ _) ?_
  refine j_callVi C (As := [.int (iI _)]) (c_X3_promiseTo _ _ _ _ _ _ (by first | assumption | omega) (by omega)) 1 nf_X3_promiseTo (jb := 0) rfl rfl wL_X3_95 wI_X3_promiseTo wSe_X3_X3_promiseTo wIn_X3 wC_X3_promiseTo rfl rfl (by decide) dX3_before_2 (Nat.le_of_ble_eq_true rfl) ⟨Nat.le_of_ble_eq_true rfl, Nat.le_of_ble_eq_true rfl⟩ (fun x2 u2 h2 => ?_)
  refine j_perm (pr_3_0_1 _ _ _) ?_
  rw [hB] at h2
  subst h2
  refine j_istn_3 C dX3_before_5 rfl ?_
  refine j_iload_n C dX3_before_6 rfl ?_
  refine j_iconst C dX3_before_7 ?_
  refine j_icmp_ne (tgt := 13) C dX3_before_8 (by decide) (by omega) (by omega) (by omega) (by omega) (fun c8 => ?_) (fun c8 => ?_)
  · refine j_aload_n C dX3_before_13 rfl ?_
    refine j_getN C 2 0 6 rfl rfl rfl wU_X0 (by decide) wFN_X3_64 rfl dX3_before_14 ?_
    refine j_iload_n C dX3_before_17 rfl ?_
    refine j_iald C 2 2 rfl rfl dX3_before_18 (by decide) (by omega) (by omega) ?_
    refine j_iload_n C dX3_before_19 rfl ?_
    refine j_icmp_ne (tgt := 32) C dX3_before_20 (by decide) (by omega) (by omega) (by omega) (by omega) (fun c20 => ?_) (fun c20 => ?_)
    · refine j_aload_n C dX3_before_32 rfl ?_
      refine j_getN C 2 0 6 rfl rfl rfl wU_X0 (by decide) wFN_X3_64 rfl dX3_before_33 ?_
      refine j_iload_n C dX3_before_36 rfl ?_
      refine j_iald C 2 2 rfl rfl dX3_before_37 (by decide) (by omega) (by omega) ?_
      exact hR () dX3_before_38 (by rcases hw with w | w <;> omega) rfl (Nat.le_of_ble_eq_true rfl) (Nat.le_of_ble_eq_true rfl)
    · refine j_aload_n C dX3_before_23 rfl ?_
      refine j_getN C 2 0 5 rfl rfl rfl wU_X0 (by decide) wFN_X3_54 rfl dX3_before_24 ?_
      refine j_iload_n C dX3_before_27 rfl ?_
      refine j_iald C 2 1 rfl rfl dX3_before_28 (by decide) (by omega) (by omega) ?_
      refine j_goto (tgt := 38) C dX3_before_29 (by decide) ?_
      exact hR () dX3_before_38 (by rcases hw with w | w <;> omega) rfl (Nat.le_of_ble_eq_true rfl) (Nat.le_of_ble_eq_true rfl)
  · exfalso; omega
set_option maxHeartbeats 4000000 in
set_option maxRecDepth 100000 in
theorem c_X3_originOf (l : Launch) (D : va_G) (cA : Nat → ClassId) (m : Nat → Nat) (B1 : Int → Int) (b : Nat → Nat) (S x e G B t D1 : Int → Int) (p : Int) (hI : Inv S) (hF : Fin S x e G B t) (hRB : RB (G, B) D1 B1) (hp : 0 ≤ p ∧ p < 7) (hD : G p ≠ FAR) : MI (U := Unit) l yX3_originOf cX3_originOf 5 (some .int) (rmN 4 0 0) D cA [.ref (m 0), .ref (b 0), .int (iI p)] [rmO m, [(m 4, aJ (cA 0) 7 B1)], bk cA b S] (fun y _ => y = org S B 7 p) (fun _ => [rmO m, [(m 4, aJ (cA 0) 7 B1)], bk cA b S]) := by
  refine m_startI pn_X3 rfl (List.forall_mem_cons.mpr ⟨rfl, List.forall_mem_cons.mpr ⟨rfl, List.forall_mem_cons.mpr ⟨rfl, fun _ h => absurd h List.not_mem_nil⟩⟩⟩) (Nat.le_of_ble_eq_true rfl) ?_
  intro K C e1 e2 e3 hin hR
  subst e1 e2 e3
  show J K 0 0 [rmO m, [(m 4, aJ ((kC K) 0) 7 B1)], bk (kC K) b S] [some (.ref (m 0)), some (.ref (b 0)), some (.int (iI p)), none, none] 0 []
  refine j_iload_n C dX3_originOf_0 rfl ?_
  refine j_istn_3 C dX3_originOf_1 rfl ?_
  refine j_iconst C dX3_originOf_2 ?_
  refine j_ist_4 C dX3_originOf_3 rfl ?_
  have L5 : ∀ (fuel : Nat) (q n : Int) (hn : 0 ≤ n ∧ n ≤ 7) (hq : 0 ≤ q ∧ q < 7) (hDq : G q ≠ FAR) (ho : org S B (7 - n).toNat q = org S B 7 p) (hf5 : (7 - n).toNat < fuel), J K 0 0 [rmO m, [(m 4, aJ ((kC K) 0) 7 B1)], bk (kC K) b S] [some (.ref (m 0)), some (.ref (b 0)), some (.int (iI p)), some (.int (iI q)), some (.int (iI n))] 5 [] := by
    intro fuel
    induction fuel with
    | zero => intro q n hn hq hDq ho hf5; exact absurd hf5 (Nat.not_lt_zero _)
    | succ fuel ih5 =>
      intro q n hn hq hDq ho hf5
      refine j_iload C dX3_originOf_5 rfl ?_
      refine j_bipush C dX3_originOf_7 (by decide) ?_
      refine j_icmp_ge (tgt := 34) C dX3_originOf_9 (by decide) (by omega) (by omega) (by omega) (by omega) (fun c9 => ?_) (fun c9 => ?_)
      · refine j_iload_n C dX3_originOf_34 rfl ?_
        refine hR () dX3_originOf_35 ?_ rfl (Nat.le_of_ble_eq_true rfl) (Nat.le_of_ble_eq_true rfl)
        show q = _
        rw [← ho]
        first | (rw [show (7 - n).toNat = 0 by omega]; rfl) | (rw [org_e]; by_cases z : B q = -1; exact z; (exfalso; have w := way_last hI hF hq.1 hq.2 hDq z; unfold hlf at hBq; rw [if_neg z] at hBq; rw [h14] at c18; omega))
      · have hBq : B1 q = hlf (B q) := (hRB q hq.1 hq.2).2
        have hBb : -1 ≤ B1 q ∧ B1 q < 40 := by
          by_cases z : B q = -1
          · rw [hBq, z]; decide
          · have w := way_last hI hF hq.1 hq.2 hDq z
            have := hI.2.1
            unfold hlf at hBq
            rw [if_neg z] at hBq
            omega
        refine j_aload_n C dX3_originOf_12 rfl ?_
        refine j_iload_n C dX3_originOf_13 rfl ?_
        refine j_perm (pm_3_0_1 _ _ _) ?_
        refine j_callVi C (As := [.int (iI _)]) (c_X3_promiseTo _ _ _ _ _ _ (by first | assumption | omega) (by exact hBb)) 1 nf_X3_promiseTo (jb := 0) rfl rfl wL_X3_95 wI_X3_promiseTo wSe_X3_X3_promiseTo wIn_X3 wC_X3_promiseTo rfl rfl (by decide) dX3_originOf_14 (Nat.le_of_ble_eq_true rfl) ⟨Nat.le_of_ble_eq_true rfl, Nat.le_of_ble_eq_true rfl⟩ (fun x14 u14 h14 => ?_)
        refine j_perm (pr_3_0_1 _ _ _) ?_
        refine j_iconst C dX3_originOf_17 ?_
        refine j_icmp_eq (tgt := 34) C dX3_originOf_18 (by decide) (by omega) (by omega) (by omega) (by omega) (fun c18 => ?_) (fun c18 => ?_)
        · refine j_iload_n C dX3_originOf_34 rfl ?_
          refine hR () dX3_originOf_35 ?_ rfl (Nat.le_of_ble_eq_true rfl) (Nat.le_of_ble_eq_true rfl)
          show q = _
          rw [← ho]
          first | (rw [show (7 - n).toNat = 0 by omega]; rfl) | (rw [org_e]; by_cases z : B q = -1; exact z; (exfalso; have w := way_last hI hF hq.1 hq.2 hDq z; unfold hlf at hBq; rw [if_neg z] at hBq; rw [h14] at c18; omega))
        · rw [h14] at c18
          have hBn : B q ≠ -1 := by
            intro z
            rw [z] at hBq
            have : B1 q = -1 := hBq
            omega
          have w := way_last hI hF hq.1 hq.2 hDq hBn
          have hBv : B1 q = B q / 2 := by unfold hlf at hBq; rw [if_neg hBn] at hBq; exact hBq
          refine j_aload_n C dX3_originOf_21 rfl ?_
          refine j_aload_n C dX3_originOf_22 rfl ?_
          refine j_iload_n C dX3_originOf_23 rfl ?_
          refine j_perm (pm_3_0_1_2 _ _ _) ?_
          refine j_callVi C (As := [.ref _, .int (iI _)]) (c_X3_before _ _ _ _ _ _ _ _ (B q) (by first | assumption | omega) (by first | assumption | omega) (by exact w.1) (by exact hBv) (by exact w.2.2.2)) 2 nf_X3_before (jb := 0) rfl rfl wL_X3_99 wI_X3_before wSe_X3_X3_before wIn_X3 wC_X3_before rfl rfl (by decide) dX3_originOf_24 (Nat.le_of_ble_eq_true rfl) ⟨Nat.le_of_ble_eq_true rfl, Nat.le_of_ble_eq_true rfl⟩ (fun x24 u24 h24 => ?_)
          refine j_perm (pr_3_0_1_2 _ _ _) ?_
          refine j_istn_3 C dX3_originOf_27 rfl ?_
          refine j_iinc_4 C dX3_originOf_28 rfl ?_
          refine j_goto (tgt := 5) C dX3_originOf_31 (by decide) ?_
          exact ih5 _ _ (by omega) (by subst h24; exact w.2.1) (by subst h24; exact w.2.2.1) (by subst h24; rw [← ho, show (7 - n).toNat = (7 - (n + 1)).toNat + 1 by omega, org_s hBn]) (by omega)
  exact L5 _ _ _ (by omega) (by omega) (by exact hD) (by rfl) (Nat.lt_succ_self _)
set_option maxHeartbeats 4000000 in
set_option maxRecDepth 100000 in
theorem c_X3_widthTo (l : Launch) (D : va_G) (cA : Nat → ClassId) (m : Nat → Nat) (X E B1 : Int → Int) (b : Nat → Nat) (S x e G B t D1 : Int → Int) (p : Int) (hI : Inv S) (hF : Fin S x e G B t) (hRB : RB (G, B) D1 B1) (hp : 0 ≤ p ∧ p < 7) (hD : G p ≠ FAR) (hX : AG (S 1) X x) (hxb : XB S x) (hE : E p = e p) (he : e p < 0 ∧ -40000 ≤ e p) : MI (U := Unit) l yX3_widthTo cX3_widthTo 8 (some .int) (rmN 4 0 0) D cA [.ref (m 0), .ref (b 0), .int (iI p)] [rmO m, [(m 1, aJ (cA 0) 40 X)], [(m 2, aJ (cA 0) 7 E)], [(m 4, aJ (cA 0) 7 B1)], bk cA b S] (fun y _ => y = (pth S B 7 p).foldl (fun m v => min m (cap S x v)) (-e p)) (fun _ => [rmO m, [(m 1, aJ (cA 0) 40 X)], [(m 2, aJ (cA 0) 7 E)], [(m 4, aJ (cA 0) 7 B1)], bk cA b S]) := by
  refine m_startI pn_X3 rfl (List.forall_mem_cons.mpr ⟨rfl, List.forall_mem_cons.mpr ⟨rfl, List.forall_mem_cons.mpr ⟨rfl, fun _ h => absurd h List.not_mem_nil⟩⟩⟩) (Nat.le_of_ble_eq_true rfl) ?_
  intro K C e1 e2 e3 hin hR
  subst e1 e2 e3
  show J K 0 0 [rmO m, [(m 1, aJ ((kC K) 0) 40 X)], [(m 2, aJ ((kC K) 0) 7 E)], [(m 4, aJ ((kC K) 0) 7 B1)], bk (kC K) b S] [some (.ref (m 0)), some (.ref (b 0)), some (.int (iI p)), none, none, none, none, none] 0 []
  refine j_iload_n C dX3_widthTo_0 rfl ?_
  refine j_perm (pm_5 _ _ _ _ _) ?_
  refine j_callSNi C (As := [.int (iI _)]) (c_X5_isParty _ _ _ _ (by first | assumption | omega)) 1 nf_X5_isParty.2 wLN_X3_67 wS_X5_isParty wIn_X5 wC_X5_isParty rfl rfl (by decide) dX3_widthTo_1 (Nat.le_of_ble_eq_true rfl) ⟨Nat.le_of_ble_eq_true rfl, Nat.le_of_ble_eq_true rfl⟩ (fun x1 u1 h1 => ?_)
  refine j_perm (pr_5 _ _ _ _ _) ?_
  refine j_if_eq (tgt := 17) C dX3_widthTo_4 (by decide) (by omega) (by omega) (fun c4 => ?_) (fun c4 => ?_)
  · exact absurd c4 (by rw [h1, if_pos (by omega)]; decide)
  · refine j_aload_n C dX3_widthTo_7 rfl ?_
    refine j_get C 0 0 1 rfl rfl rfl wU_X3 (by decide) wF_X3_15 rfl dX3_widthTo_8 ?_
    refine j_iload_n C dX3_widthTo_11 rfl ?_
    refine j_iald C 2 0 rfl rfl dX3_widthTo_12 (by decide) (by omega) (by omega) ?_
    refine j_ineg C dX3_widthTo_13 ?_
    refine j_goto (tgt := 18) C dX3_widthTo_14 (by decide) ?_
    refine j_istn_3 C dX3_widthTo_18 rfl ?_
    refine j_iload_n C dX3_widthTo_19 rfl ?_
    refine j_ist_4 C dX3_widthTo_20 rfl ?_
    refine j_iconst C dX3_widthTo_22 ?_
    refine j_ist_5 C dX3_widthTo_23 rfl ?_
    have L25 : ∀ (fuel : Nat) (y q n : Int) (hn : 0 ≤ n ∧ n ≤ 7) (hq : 0 ≤ q ∧ q < 7) (hDq : G q ≠ FAR) (hy : 0 ≤ y ∧ y ≤ 40000) (ho : (pth S B (7 - n).toNat q).foldl (fun m v => min m (cap S x v)) y = (pth S B 7 p).foldl (fun m v => min m (cap S x v)) (-e p)) (hf25 : (7 - n).toNat < fuel), J K 0 0 [rmO m, [(m 1, aJ ((kC K) 0) 40 X)], [(m 2, aJ ((kC K) 0) 7 E)], [(m 4, aJ ((kC K) 0) 7 B1)], bk (kC K) b S] [some (.ref (m 0)), some (.ref (b 0)), some (.int (iI p)), some (.int (iI y)), some (.int (iI q)), some (.int (iI n)), none, none] 25 [] := by
      intro fuel
      induction fuel with
      | zero => intro y q n hn hq hDq hy ho hf25; exact absurd hf25 (Nat.not_lt_zero _)
      | succ fuel ih25 =>
        intro y q n hn hq hDq hy ho hf25
        refine j_iload C dX3_widthTo_25 rfl ?_
        refine j_bipush C dX3_widthTo_27 (by decide) ?_
        refine j_icmp_ge (tgt := 106) C dX3_widthTo_29 (by decide) (by omega) (by omega) (by omega) (by omega) (fun c29 => ?_) (fun c29 => ?_)
        · refine j_iload_n C dX3_widthTo_106 rfl ?_
          refine hR () dX3_widthTo_107 ?_ rfl (Nat.le_of_ble_eq_true rfl) (Nat.le_of_ble_eq_true rfl)
          show y = _
          rw [← ho]
          first | (rw [show (7 - n).toNat = 0 by omega]; rfl) | (have z9 : B q = -1 := (by by_cases z : B q = -1; exact z; (exfalso; have w := way_last hI hF hq.1 hq.2 hDq z; unfold hlf at hBq; rw [if_neg z] at hBq; rw [h35] at c39; omega)); rw [pth_e z9]; rfl)
        · have hBq : B1 q = hlf (B q) := (hRB q hq.1 hq.2).2
          have hBb : -1 ≤ B1 q ∧ B1 q < 40 := by
            by_cases z : B q = -1
            · rw [hBq, z]; decide
            · have w := way_last hI hF hq.1 hq.2 hDq z
              have := hI.2.1
              unfold hlf at hBq
              rw [if_neg z] at hBq
              omega
          refine j_aload_n C dX3_widthTo_32 rfl ?_
          refine j_iload C dX3_widthTo_33 rfl ?_
          refine j_perm (pm_5_0_3 _ _ _ _ _) ?_
          refine j_callVi C (As := [.int (iI _)]) (c_X3_promiseTo _ _ _ _ _ _ (by first | assumption | omega) (by exact hBb)) 1 nf_X3_promiseTo (jb := 0) rfl rfl wL_X3_95 wI_X3_promiseTo wSe_X3_X3_promiseTo wIn_X3 wC_X3_promiseTo rfl rfl (by decide) dX3_widthTo_35 (Nat.le_of_ble_eq_true rfl) ⟨Nat.le_of_ble_eq_true rfl, Nat.le_of_ble_eq_true rfl⟩ (fun x35 u35 h35 => ?_)
          refine j_perm (pr_5_0_3 _ _ _ _ _) ?_
          refine j_iconst C dX3_widthTo_38 ?_
          refine j_icmp_eq (tgt := 106) C dX3_widthTo_39 (by decide) (by omega) (by omega) (by omega) (by omega) (fun c39 => ?_) (fun c39 => ?_)
          · refine j_iload_n C dX3_widthTo_106 rfl ?_
            refine hR () dX3_widthTo_107 ?_ rfl (Nat.le_of_ble_eq_true rfl) (Nat.le_of_ble_eq_true rfl)
            show y = _
            rw [← ho]
            first | (rw [show (7 - n).toNat = 0 by omega]; rfl) | (have z9 : B q = -1 := (by by_cases z : B q = -1; exact z; (exfalso; have w := way_last hI hF hq.1 hq.2 hDq z; unfold hlf at hBq; rw [if_neg z] at hBq; rw [h35] at c39; omega)); rw [pth_e z9]; rfl)
          · rw [h35] at c39
            have hBn : B q ≠ -1 := by
              intro z
              rw [z] at hBq
              have : B1 q = -1 := hBq
              omega
            have w := way_last hI hF hq.1 hq.2 hDq hBn
            have hBv : B1 q = B q / 2 := by unfold hlf at hBq; rw [if_neg hBn] at hBq; exact hBq
            refine j_aload_n C dX3_widthTo_42 rfl ?_
            refine j_iload C dX3_widthTo_43 rfl ?_
            refine j_perm (pm_5_0_3 _ _ _ _ _) ?_
            refine j_callVi C (As := [.int (iI _)]) (c_X3_promiseTo _ _ _ _ _ _ (by first | assumption | omega) (by exact hBb)) 1 nf_X3_promiseTo (jb := 0) rfl rfl wL_X3_95 wI_X3_promiseTo wSe_X3_X3_promiseTo wIn_X3 wC_X3_promiseTo rfl rfl (by decide) dX3_widthTo_45 (Nat.le_of_ble_eq_true rfl) ⟨Nat.le_of_ble_eq_true rfl, Nat.le_of_ble_eq_true rfl⟩ (fun x45 u45 h45 => ?_)
            refine j_perm (pr_5_0_3 _ _ _ _ _) ?_
            refine j_ist_6 C dX3_widthTo_48 rfl ?_
            rw [hBv] at h45
            subst h45
            have f := hI.2.2 _ w.1.1 w.1.2
            have hxk := hxb _ w.1.1 w.1.2
            have hXk := hX _ w.1.1 w.1.2
            refine j_aload_n C dX3_widthTo_50 rfl ?_
            refine j_get C 0 0 0 rfl rfl rfl wU_X3 (by decide) wF_X3_9 rfl dX3_widthTo_51 ?_
            refine j_iload C dX3_widthTo_54 rfl ?_
            refine j_iald C 1 0 rfl rfl dX3_widthTo_56 (by decide) (by omega) (by omega) ?_
            refine j_ist_7 C dX3_widthTo_57 rfl ?_
            refine j_iload_n C dX3_widthTo_59 rfl ?_
            refine j_aload_n C dX3_widthTo_60 rfl ?_
            refine j_getN C 4 0 6 rfl rfl rfl wU_X0 (by decide) wFN_X3_64 rfl dX3_widthTo_61 ?_
            refine j_iload C dX3_widthTo_64 rfl ?_
            refine j_iald C 4 2 rfl rfl dX3_widthTo_66 (by decide) (by omega) (by omega) ?_
            refine j_iload C dX3_widthTo_67 rfl ?_
            refine j_icmp_ne (tgt := 85) C dX3_widthTo_69 (by decide) (by omega) (by omega) (by omega) (by omega) (fun c69 => ?_) (fun c69 => ?_)
            · refine j_iload C dX3_widthTo_85 rfl ?_
              refine j_mmin C rfl wL_X3_89 wS_J9_min_7cf53 wIn_J9 wC_J9_min_7cf53 ⟨by decide, Nat.le_of_ble_eq_true rfl, by decide, by decide⟩ dX3_widthTo_87 (by omega) (by omega) (by omega) (by omega) (fun z87 hz87 => ?_)
              have hzz : min y (cap S x (B q)) = z87 := by unfold cap; split <;> omega
              refine j_istn_3 C dX3_widthTo_90 rfl ?_
              refine j_aload_n C dX3_widthTo_91 rfl ?_
              refine j_aload_n C dX3_widthTo_92 rfl ?_
              refine j_iload C dX3_widthTo_93 rfl ?_
              refine j_perm (pm_5_0_3_4 _ _ _ _ _) ?_
              refine j_callVi C (As := [.ref _, .int (iI _)]) (c_X3_before _ _ _ _ _ _ _ _ (B q) (by first | assumption | omega) (by first | assumption | omega) (by exact w.1) (by exact hBv) (by exact w.2.2.2)) 2 nf_X3_before (jb := 0) rfl rfl wL_X3_99 wI_X3_before wSe_X3_X3_before wIn_X3 wC_X3_before rfl rfl (by decide) dX3_widthTo_95 (Nat.le_of_ble_eq_true rfl) ⟨Nat.le_of_ble_eq_true rfl, Nat.le_of_ble_eq_true rfl⟩ (fun x95 u95 h95 => ?_)
              refine j_perm (pr_5_0_3_4 _ _ _ _ _) ?_
              refine j_ist_4 C dX3_widthTo_98 rfl ?_
              refine j_iinc_5 C dX3_widthTo_100 rfl ?_
              refine j_goto (tgt := 25) C dX3_widthTo_103 (by decide) ?_
              exact j_lle (lv' := [_, _, _, _, _, _, none, none]) ⟨Or.inr rfl, ⟨Or.inr rfl, ⟨Or.inr rfl, ⟨Or.inr rfl, ⟨Or.inr rfl, ⟨Or.inr rfl, ⟨Or.inl rfl, ⟨Or.inl rfl, trivial⟩⟩⟩⟩⟩⟩⟩⟩ (ih25 _ _ _ (by omega) (by subst h95; exact w.2.1) (by subst h95; exact w.2.2.1) (by omega) (by subst h95; rw [← ho, show (7 - n).toNat = (7 - (n + 1)).toNat + 1 by omega, pth_s hBn, List.foldl_cons, hzz]) (by omega))
            · refine j_aload_n C dX3_widthTo_72 rfl ?_
              refine j_getN C 4 0 7 rfl rfl rfl wU_X0 (by decide) wFN_X3_57 rfl dX3_widthTo_73 ?_
              refine j_iload C dX3_widthTo_76 rfl ?_
              refine j_iald C 4 3 rfl rfl dX3_widthTo_78 (by decide) (by omega) (by omega) ?_
              refine j_iload C dX3_widthTo_79 rfl ?_
              refine j_isub C dX3_widthTo_81 ?_
              refine j_goto (tgt := 87) C dX3_widthTo_82 (by decide) ?_
              refine j_mmin C rfl wL_X3_89 wS_J9_min_7cf53 wIn_J9 wC_J9_min_7cf53 ⟨by decide, Nat.le_of_ble_eq_true rfl, by decide, by decide⟩ dX3_widthTo_87 (by omega) (by omega) (by omega) (by omega) (fun z87 hz87 => ?_)
              have hzz : min y (cap S x (B q)) = z87 := by unfold cap; split <;> omega
              refine j_istn_3 C dX3_widthTo_90 rfl ?_
              refine j_aload_n C dX3_widthTo_91 rfl ?_
              refine j_aload_n C dX3_widthTo_92 rfl ?_
              refine j_iload C dX3_widthTo_93 rfl ?_
              refine j_perm (pm_5_0_3_4 _ _ _ _ _) ?_
              refine j_callVi C (As := [.ref _, .int (iI _)]) (c_X3_before _ _ _ _ _ _ _ _ (B q) (by first | assumption | omega) (by first | assumption | omega) (by exact w.1) (by exact hBv) (by exact w.2.2.2)) 2 nf_X3_before (jb := 0) rfl rfl wL_X3_99 wI_X3_before wSe_X3_X3_before wIn_X3 wC_X3_before rfl rfl (by decide) dX3_widthTo_95 (Nat.le_of_ble_eq_true rfl) ⟨Nat.le_of_ble_eq_true rfl, Nat.le_of_ble_eq_true rfl⟩ (fun x95 u95 h95 => ?_)
              refine j_perm (pr_5_0_3_4 _ _ _ _ _) ?_
              refine j_ist_4 C dX3_widthTo_98 rfl ?_
              refine j_iinc_5 C dX3_widthTo_100 rfl ?_
              refine j_goto (tgt := 25) C dX3_widthTo_103 (by decide) ?_
              exact j_lle (lv' := [_, _, _, _, _, _, none, none]) ⟨Or.inr rfl, ⟨Or.inr rfl, ⟨Or.inr rfl, ⟨Or.inr rfl, ⟨Or.inr rfl, ⟨Or.inr rfl, ⟨Or.inl rfl, ⟨Or.inl rfl, trivial⟩⟩⟩⟩⟩⟩⟩⟩ (ih25 _ _ _ (by omega) (by subst h95; exact w.2.1) (by subst h95; exact w.2.2.1) (by omega) (by subst h95; rw [← ho, show (7 - n).toNat = (7 - (n + 1)).toNat + 1 by omega, pth_s hBn, List.foldl_cons, hzz]) (by omega))
    exact L25 _ _ _ _ (by omega) (by omega) (by exact hD) (by omega) (by rw [hE]; rfl) (Nat.lt_succ_self _)
set_option maxHeartbeats 4000000 in
set_option maxRecDepth 100000 in
theorem c_X3_push (l : Launch) (D : va_G) (cA : Nat → ClassId) (m : Nat → Nat) (X E D1 B1 : Int → Int) (b : Nat → Nat) (S x e : Int → Int) (p : Int) (hI : Inv S) (hL : LI S x e) (hX : AG (S 1) X x) (hE : AG 7 E e) (hR0 : RB (meas S x e) D1 B1) (hp : 0 ≤ p ∧ p < 7) (he : e p < 0) (hD : (meas S x e).1 p ≠ FAR) : MV (U := (Int → Int) × (Int → Int)) l yX3_push cX3_push 8 none (rmN 5 0 0) D cA [.ref (m 0), .ref (b 0), .int (iI p)] [rmO m, [(m 1, aJ (cA 0) 40 X)], [(m 2, aJ (cA 0) 7 E)], [(m 3, aJ (cA 0) 7 D1)], [(m 4, aJ (cA 0) 7 B1)], bk cA b S] (fun u => AG (S 1) u.1 (nxt S x e p).1 ∧ AG 7 u.2 (nxt S x e p).2) (fun u => [rmO m, [(m 1, aJ (cA 0) 40 u.1)], [(m 2, aJ (cA 0) 7 u.2)], [(m 3, aJ (cA 0) 7 D1)], [(m 4, aJ (cA 0) 7 B1)], bk cA b S]) := by
  refine m_startV pn_X3 rfl (List.forall_mem_cons.mpr ⟨rfl, List.forall_mem_cons.mpr ⟨rfl, List.forall_mem_cons.mpr ⟨rfl, fun _ h => absurd h List.not_mem_nil⟩⟩⟩) (Nat.le_of_ble_eq_true rfl) ?_
  intro K C e1 e2 e3 hin hR
  subst e1 e2 e3
  have hN := hI.2.1
  obtain ⟨y, hy⟩ := hL.2.1
  obtain ⟨t, hF, -⟩ := meas_fin hI hy hL.1
  have hpo := push_ok hI hL hp.1 hp.2 he hD
  dsimp only at hpo
  obtain ⟨B, hBd⟩ : ∃ z, z = (meas S x e).2 := ⟨_, rfl⟩
  obtain ⟨G, hGd⟩ : ∃ z, z = (meas S x e).1 := ⟨_, rfl⟩
  have hnx : nxt S x e p = (psh x (pth S B 7 p) (muc S x e (pth S B 7 p) (org S B 7 p) p), psE e (org S B 7 p) p (muc S x e (pth S B 7 p) (org S B 7 p) p)) := by rw [hBd]; rfl
  rw [← hBd] at hpo hF
  rw [← hGd] at hF hD
  have hRB : RB (G, B) D1 B1 := by rw [hGd, hBd]; exact hR0
  have hEp := hE p hp.1 hp.2
  have hep := hL.2.2 p hp.1 hp.2
  show J K 0 0 [rmO m, [(m 1, aJ ((kC K) 0) 40 X)], [(m 2, aJ ((kC K) 0) 7 E)], [(m 3, aJ ((kC K) 0) 7 D1)], [(m 4, aJ ((kC K) 0) 7 B1)], bk (kC K) b S] [some (.ref (m 0)), some (.ref (b 0)), some (.int (iI p)), none, none, none, none, none] 0 []
  refine j_aload_n C dX3_push_0 rfl ?_
  refine j_aload_n C dX3_push_1 rfl ?_
  refine j_iload_n C dX3_push_2 rfl ?_
  refine j_perm (pm_6_0_4_5 _ _ _ _ _ _) ?_
  refine j_callVi C (As := [.ref _, .int (iI _)]) (c_X3_originOf _ _ _ _ _ _ _ (x) (e) (G) (B) (t) _ _ (by first | assumption | omega) (by first | assumption | omega) (by first | assumption | omega) (by first | assumption | omega) (by first | assumption | omega)) 2 nf_X3_originOf (jb := 0) rfl rfl wL_X3_82 wI_X3_originOf wSe_X3_X3_originOf wIn_X3 wC_X3_originOf rfl rfl (by decide) dX3_push_3 (Nat.le_of_ble_eq_true rfl) ⟨Nat.le_of_ble_eq_true rfl, Nat.le_of_ble_eq_true rfl⟩ (fun x3 u3 h3 => ?_)
  refine j_perm (pr_6_0_4_5 _ _ _ _ _ _) ?_
  rw [← h3] at hpo hnx
  have hEo := hE x3 hpo.2.2.2.1.1 hpo.2.2.2.1.2
  have heo := hL.2.2 x3 hpo.2.2.2.1.1 hpo.2.2.2.1.2
  refine j_istn_3 C dX3_push_6 rfl ?_
  refine j_iload_n C dX3_push_7 rfl ?_
  refine j_perm (pm_6 _ _ _ _ _ _) ?_
  refine j_callSNi C (As := [.int (iI _)]) (c_X5_isParty _ _ _ _ (by first | assumption | omega)) 1 nf_X5_isParty.2 wLN_X3_67 wS_X5_isParty wIn_X5 wC_X5_isParty rfl rfl (by decide) dX3_push_8 (Nat.le_of_ble_eq_true rfl) ⟨Nat.le_of_ble_eq_true rfl, Nat.le_of_ble_eq_true rfl⟩ (fun x8 u8 h8 => ?_)
  refine j_perm (pr_6 _ _ _ _ _ _) ?_
  refine j_if_ne (tgt := 15) C dX3_push_11 (by decide) (by omega) (by omega) (fun c11 => ?_) (fun c11 => ?_)
  · refine j_aload_n C dX3_push_15 rfl ?_
    refine j_get C 0 0 1 rfl rfl rfl wU_X3 (by decide) wF_X3_15 rfl dX3_push_16 ?_
    refine j_iload_n C dX3_push_19 rfl ?_
    refine j_iald C 2 0 rfl rfl dX3_push_20 (by decide) (by omega) (by omega) ?_
    refine j_aload_n C dX3_push_21 rfl ?_
    refine j_aload_n C dX3_push_22 rfl ?_
    refine j_iload_n C dX3_push_23 rfl ?_
    refine j_perm (pm_6_0_1_2_4_5 _ _ _ _ _ _) ?_
    refine j_callVi C (As := [.ref _, .int (iI _)]) (c_X3_widthTo _ _ _ _ _ _ _ _ _ (x) (e) (G) (B) (t) _ _ (by first | assumption | omega) (by first | assumption | omega) (by first | assumption | omega) (by first | assumption | omega) (by first | assumption | omega) (by first | assumption | omega) (by exact hL.1) (by first | assumption | omega) (by omega)) 2 nf_X3_widthTo (jb := 0) rfl rfl wL_X3_86 wI_X3_widthTo wSe_X3_X3_widthTo wIn_X3 wC_X3_widthTo rfl rfl (by decide) dX3_push_24 (Nat.le_of_ble_eq_true rfl) ⟨Nat.le_of_ble_eq_true rfl, Nat.le_of_ble_eq_true rfl⟩ (fun x24 u24 h24 => ?_)
    refine j_perm (pr_6_0_1_2_4_5 _ _ _ _ _ _) ?_
    have hb24 : 0 ≤ x24 ∧ x24 ≤ 40000 := by
      have hm := fm_le2 (d := cap S x) (pth S B 7 p) (-e p)
      rw [← h24] at hm
      have := hm.2.2 (by omega) (fun v hv => by have := hpo.2.2.2.2.2.2.2.1 v hv; omega)
      omega
    refine j_mmin C rfl wL_X3_89 wS_J9_min_7cf53 wIn_J9 wC_J9_min_7cf53 ⟨by decide, Nat.le_of_ble_eq_true rfl, by decide, by decide⟩ dX3_push_27 (by omega) (by omega) (by omega) (by omega) (fun z27 hz27 => ?_)
    have hmu : z27 = muc S x e (pth S B 7 p) x3 p := by unfold muc; rw [← h24]; omega
    rw [← hmu] at hpo hnx
    refine j_ist_4 C dX3_push_30 rfl ?_
    refine j_iload_n C dX3_push_32 rfl ?_
    refine j_ist_5 C dX3_push_33 rfl ?_
    refine j_iconst C dX3_push_35 ?_
    refine j_ist_6 C dX3_push_36 rfl ?_
    have L38 : ∀ (fuel : Nat) (q n : Int) (X1 : Int → Int) (hn : 0 ≤ n ∧ n ≤ 7) (hq : 0 ≤ q ∧ q < 7) (hDq : G q ≠ FAR) (hXb : ∀ k : Int, 0 ≤ k → k < S 1 → -40000 * n ≤ X1 k ∧ X1 k ≤ 1000 + 40000 * n) (ho : psh X1 (pth S B (7 - n).toNat q) z27 = psh X (pth S B 7 p) z27) (hf38 : (7 - n).toNat < fuel), J K 0 0 [rmO m, [(m 1, aJ ((kC K) 0) 40 X1)], [(m 2, aJ ((kC K) 0) 7 E)], [(m 3, aJ ((kC K) 0) 7 D1)], [(m 4, aJ ((kC K) 0) 7 B1)], bk (kC K) b S] [some (.ref (m 0)), some (.ref (b 0)), some (.int (iI p)), some (.int (iI x3)), some (.int (iI z27)), some (.int (iI q)), some (.int (iI n)), none] 38 [] := by
      intro fuel
      induction fuel with
      | zero => intro q n X1 hn hq hDq hXb ho hf38; exact absurd hf38 (Nat.not_lt_zero _)
      | succ fuel ih38 =>
        intro q n X1 hn hq hDq hXb ho hf38
        refine j_iload C dX3_push_38 rfl ?_
        refine j_bipush C dX3_push_40 (by decide) ?_
        refine j_icmp_ge (tgt := 108) C dX3_push_42 (by decide) (by omega) (by omega) (by omega) (by omega) (fun c42 => ?_) (fun c42 => ?_)
        · refine j_aload_n C dX3_push_108 rfl ?_
          refine j_iload_n C dX3_push_109 rfl ?_
          refine j_iload C dX3_push_110 rfl ?_
          refine j_ineg C dX3_push_112 ?_
          refine j_perm (pm_6_0_2 _ _ _ _ _ _) ?_
          refine j_callVv C (As := [.int (iI _), .int (iI _)]) (c_X3_addExcess _ _ _ _ _ _ _ (by exact hpo.2.2.2.1)) 2 nf_X3_addExcess (jb := 0) rfl rfl wL_X3_60 wI_X3_addExcess wSe_X3_X3_addExcess wIn_X3 wC_X3_addExcess rfl rfl (by decide) dX3_push_113 (Nat.le_of_ble_eq_true rfl) ⟨Nat.le_of_ble_eq_true rfl, Nat.le_of_ble_eq_true rfl⟩ (fun u113 h113 => ?_)
          refine j_perm (pr_6_0_2 _ _ _ _ _ _) ?_
          refine j_aload_n C dX3_push_116 rfl ?_
          refine j_iload_n C dX3_push_117 rfl ?_
          refine j_iload C dX3_push_118 rfl ?_
          refine j_perm (pm_6_0_2 _ _ _ _ _ _) ?_
          refine j_callVv C (As := [.int (iI _), .int (iI _)]) (c_X3_addExcess _ _ _ _ _ _ _ (by first | assumption | omega)) 2 nf_X3_addExcess (jb := 0) rfl rfl wL_X3_60 wI_X3_addExcess wSe_X3_X3_addExcess wIn_X3 wC_X3_addExcess rfl rfl (by decide) dX3_push_120 (Nat.le_of_ble_eq_true rfl) ⟨Nat.le_of_ble_eq_true rfl, Nat.le_of_ble_eq_true rfl⟩ (fun u120 h120 => ?_)
          refine j_perm (pr_6_0_2 _ _ _ _ _ _) ?_
          refine hR (X1, st (st E x3 (E x3 + -z27)) p (st E x3 (E x3 + -z27) p + z27)) dX3_push_123 ?_ rfl (Nat.le_of_ble_eq_true rfl) (Nat.le_of_ble_eq_true rfl)
          rw [hnx]
          have hfin : X1 = psh X (pth S B 7 p) z27 := by
            rw [← ho]
            first | (rw [show (7 - n).toNat = 0 by omega]; rfl) | (have z9 : B q = -1 := (by by_cases z : B q = -1; exact z; (exfalso; have w := way_last hI hF hq.1 hq.2 hDq z; unfold hlf at hBq; rw [if_neg z] at hBq; rw [h48] at c52; omega)); rw [pth_e z9]; rfl)
          refine ⟨?_, ?_⟩
          · dsimp only
            rw [hfin]
            exact psh_AG _ _ hX
          · unfold psE
            have h9 : AG 7 (st E x3 (E x3 + -z27)) (st e x3 (e x3 - z27)) := AG_st hE (fun _ _ => by omega)
            exact AG_st h9 (fun a b => by rw [h9 p a b])
        · have hBq : B1 q = hlf (B q) := (hRB q hq.1 hq.2).2
          have hBb : -1 ≤ B1 q ∧ B1 q < 40 := by
            by_cases z : B q = -1
            · rw [hBq, z]; decide
            · have w := way_last hI hF hq.1 hq.2 hDq z
              have := hI.2.1
              unfold hlf at hBq
              rw [if_neg z] at hBq
              omega
          refine j_aload_n C dX3_push_45 rfl ?_
          refine j_iload C dX3_push_46 rfl ?_
          refine j_perm (pm_6_0_4 _ _ _ _ _ _) ?_
          refine j_callVi C (As := [.int (iI _)]) (c_X3_promiseTo _ _ _ _ _ _ (by first | assumption | omega) (by exact hBb)) 1 nf_X3_promiseTo (jb := 0) rfl rfl wL_X3_95 wI_X3_promiseTo wSe_X3_X3_promiseTo wIn_X3 wC_X3_promiseTo rfl rfl (by decide) dX3_push_48 (Nat.le_of_ble_eq_true rfl) ⟨Nat.le_of_ble_eq_true rfl, Nat.le_of_ble_eq_true rfl⟩ (fun x48 u48 h48 => ?_)
          refine j_perm (pr_6_0_4 _ _ _ _ _ _) ?_
          refine j_iconst C dX3_push_51 ?_
          refine j_icmp_eq (tgt := 108) C dX3_push_52 (by decide) (by omega) (by omega) (by omega) (by omega) (fun c52 => ?_) (fun c52 => ?_)
          · refine j_aload_n C dX3_push_108 rfl ?_
            refine j_iload_n C dX3_push_109 rfl ?_
            refine j_iload C dX3_push_110 rfl ?_
            refine j_ineg C dX3_push_112 ?_
            refine j_perm (pm_6_0_2 _ _ _ _ _ _) ?_
            refine j_callVv C (As := [.int (iI _), .int (iI _)]) (c_X3_addExcess _ _ _ _ _ _ _ (by exact hpo.2.2.2.1)) 2 nf_X3_addExcess (jb := 0) rfl rfl wL_X3_60 wI_X3_addExcess wSe_X3_X3_addExcess wIn_X3 wC_X3_addExcess rfl rfl (by decide) dX3_push_113 (Nat.le_of_ble_eq_true rfl) ⟨Nat.le_of_ble_eq_true rfl, Nat.le_of_ble_eq_true rfl⟩ (fun u113 h113 => ?_)
            refine j_perm (pr_6_0_2 _ _ _ _ _ _) ?_
            refine j_aload_n C dX3_push_116 rfl ?_
            refine j_iload_n C dX3_push_117 rfl ?_
            refine j_iload C dX3_push_118 rfl ?_
            refine j_perm (pm_6_0_2 _ _ _ _ _ _) ?_
            refine j_callVv C (As := [.int (iI _), .int (iI _)]) (c_X3_addExcess _ _ _ _ _ _ _ (by first | assumption | omega)) 2 nf_X3_addExcess (jb := 0) rfl rfl wL_X3_60 wI_X3_addExcess wSe_X3_X3_addExcess wIn_X3 wC_X3_addExcess rfl rfl (by decide) dX3_push_120 (Nat.le_of_ble_eq_true rfl) ⟨Nat.le_of_ble_eq_true rfl, Nat.le_of_ble_eq_true rfl⟩ (fun u120 h120 => ?_)
            refine j_perm (pr_6_0_2 _ _ _ _ _ _) ?_
            refine hR (X1, st (st E x3 (E x3 + -z27)) p (st E x3 (E x3 + -z27) p + z27)) dX3_push_123 ?_ rfl (Nat.le_of_ble_eq_true rfl) (Nat.le_of_ble_eq_true rfl)
            rw [hnx]
            have hfin : X1 = psh X (pth S B 7 p) z27 := by
              rw [← ho]
              first | (rw [show (7 - n).toNat = 0 by omega]; rfl) | (have z9 : B q = -1 := (by by_cases z : B q = -1; exact z; (exfalso; have w := way_last hI hF hq.1 hq.2 hDq z; unfold hlf at hBq; rw [if_neg z] at hBq; rw [h48] at c52; omega)); rw [pth_e z9]; rfl)
            refine ⟨?_, ?_⟩
            · dsimp only
              rw [hfin]
              exact psh_AG _ _ hX
            · unfold psE
              have h9 : AG 7 (st E x3 (E x3 + -z27)) (st e x3 (e x3 - z27)) := AG_st hE (fun _ _ => by omega)
              exact AG_st h9 (fun a b => by rw [h9 p a b])
          · rw [h48] at c52
            have hBn : B q ≠ -1 := by
              intro z
              rw [z] at hBq
              have : B1 q = -1 := hBq
              omega
            have w := way_last hI hF hq.1 hq.2 hDq hBn
            have hBv : B1 q = B q / 2 := by unfold hlf at hBq; rw [if_neg hBn] at hBq; exact hBq
            refine j_aload_n C dX3_push_55 rfl ?_
            refine j_iload C dX3_push_56 rfl ?_
            refine j_perm (pm_6_0_4 _ _ _ _ _ _) ?_
            refine j_callVi C (As := [.int (iI _)]) (c_X3_promiseTo _ _ _ _ _ _ (by first | assumption | omega) (by exact hBb)) 1 nf_X3_promiseTo (jb := 0) rfl rfl wL_X3_95 wI_X3_promiseTo wSe_X3_X3_promiseTo wIn_X3 wC_X3_promiseTo rfl rfl (by decide) dX3_push_58 (Nat.le_of_ble_eq_true rfl) ⟨Nat.le_of_ble_eq_true rfl, Nat.le_of_ble_eq_true rfl⟩ (fun x58 u58 h58 => ?_)
            refine j_perm (pr_6_0_4 _ _ _ _ _ _) ?_
            refine j_ist_7 C dX3_push_61 rfl ?_
            rw [hBv] at h58
            subst h58
            have f := hI.2.2 _ w.1.1 w.1.2
            have hX1 := hXb _ w.1.1 w.1.2
            refine j_aload_n C dX3_push_63 rfl ?_
            refine j_get C 0 0 0 rfl rfl rfl wU_X3 (by decide) wF_X3_9 rfl dX3_push_64 ?_
            refine j_iload C dX3_push_67 rfl ?_
            refine j_dup2 C dX3_push_69 rfl rfl ?_
            refine j_iald C 1 0 rfl rfl dX3_push_70 (by decide) (by omega) (by omega) ?_
            refine j_aload_n C dX3_push_71 rfl ?_
            refine j_getN C 5 0 6 rfl rfl rfl wU_X0 (by decide) wFN_X3_64 rfl dX3_push_72 ?_
            refine j_iload C dX3_push_75 rfl ?_
            refine j_iald C 5 2 rfl rfl dX3_push_77 (by decide) (by omega) (by omega) ?_
            refine j_iload C dX3_push_78 rfl ?_
            have L91 : ∀ (dd : Int) (hdd : dd = if B q % 2 = 0 then z27 else -z27), J K 0 0 [rmO m, [(m 1, aJ ((kC K) 0) 40 X1)], [(m 2, aJ ((kC K) 0) 7 E)], [(m 3, aJ ((kC K) 0) 7 D1)], [(m 4, aJ ((kC K) 0) 7 B1)], bk (kC K) b S] [some (.ref (m 0)), some (.ref (b 0)), some (.int (iI p)), some (.int (iI x3)), some (.int (iI z27)), some (.int (iI q)), some (.int (iI n)), none] 91 [.int (iI dd), .int (iI (X1 (B q / 2))), .int (iI (B q / 2)), .ref (m 1)] := by
              intro dd hdd
              have hddb : -40000 ≤ dd ∧ dd ≤ 40000 := by split at hdd <;> omega
              refine j_iadd C dX3_push_91 ?_
              refine j_iast_p1 C 0 rfl ar1_ast dX3_push_92 (by decide) (by omega) (by omega) ?_
              refine j_aload_n C dX3_push_93 rfl ?_
              refine j_aload_n C dX3_push_94 rfl ?_
              refine j_iload C dX3_push_95 rfl ?_
              refine j_perm (pm_6_0_4_5 _ _ _ _ _ _) ?_
              refine j_callVi C (As := [.ref _, .int (iI _)]) (c_X3_before _ _ _ _ _ _ _ _ (B q) (by first | assumption | omega) (by first | assumption | omega) (by exact w.1) (by exact hBv) (by exact w.2.2.2)) 2 nf_X3_before (jb := 0) rfl rfl wL_X3_99 wI_X3_before wSe_X3_X3_before wIn_X3 wC_X3_before rfl rfl (by decide) dX3_push_97 (Nat.le_of_ble_eq_true rfl) ⟨Nat.le_of_ble_eq_true rfl, Nat.le_of_ble_eq_true rfl⟩ (fun x97 u97 h97 => ?_)
              refine j_perm (pr_6_0_4_5 _ _ _ _ _ _) ?_
              refine j_ist_5 C dX3_push_100 rfl ?_
              refine j_iinc_6 C dX3_push_102 rfl ?_
              refine j_goto (tgt := 38) C dX3_push_105 (by decide) ?_
              exact ih38 _ _ _ (by omega) (by subst h97; exact w.2.1) (by subst h97; exact w.2.2.1) (by intro k k0 k1; have hk3 := hXb k k0 k1; by_cases z : k = B q / 2; (subst z; rw [st_s]; omega); (rw [st_n z]; omega)) (by subst h97; rw [← ho, show (7 - n).toNat = (7 - (n + 1)).toNat + 1 by omega, pth_s hBn, psh, hdd]) (by omega)
            refine j_icmp_ne (tgt := 88) C dX3_push_80 (by decide) (by omega) (by omega) (by omega) (by omega) (fun c80 => ?_) (fun c80 => ?_)
            · refine j_iload C dX3_push_88 rfl ?_
              refine j_ineg C dX3_push_90 ?_
              exact j_lle (lv' := [_, _, _, _, _, _, _, none]) ⟨Or.inr rfl, ⟨Or.inr rfl, ⟨Or.inr rfl, ⟨Or.inr rfl, ⟨Or.inr rfl, ⟨Or.inr rfl, ⟨Or.inr rfl, ⟨Or.inl rfl, trivial⟩⟩⟩⟩⟩⟩⟩⟩ (L91 _ (by first | (rw [if_pos (by omega)]; done) | (rw [if_neg (by omega)]; done)))
            · refine j_iload C dX3_push_83 rfl ?_
              refine j_goto (tgt := 91) C dX3_push_85 (by decide) ?_
              exact j_lle (lv' := [_, _, _, _, _, _, _, none]) ⟨Or.inr rfl, ⟨Or.inr rfl, ⟨Or.inr rfl, ⟨Or.inr rfl, ⟨Or.inr rfl, ⟨Or.inr rfl, ⟨Or.inr rfl, ⟨Or.inl rfl, trivial⟩⟩⟩⟩⟩⟩⟩⟩ (L91 _ (by first | (rw [if_pos (by omega)]; done) | (rw [if_neg (by omega)]; done)))
    exact L38 _ _ _ _ (by omega) (by omega) (by exact hD) (by intro k k0 k1; have := hX k k0 k1; have := hL.1 k k0 k1; have := hI.2.2 k k0 k1; omega) (by rfl) (Nat.lt_succ_self _)
  · exact absurd c11 (by rw [h8, if_pos (by omega)]; decide)
