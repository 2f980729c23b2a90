/-! the reference: orders carried out -/
theorem exO_p {S : Int → Int} {f e x y i : Int} : exO S 112 f e x y i = if f < S 0 ∧ e < S 0 ∧ f ≠ e ∧ S 1 < 40 then (1, addP S f e x y) else (0, S) := rfl
theorem exO_x {S : Int → Int} {f e x y i : Int} : exO S 120 f e x y i = if i < S 1 ∧ 0 < am S i ∧ di S i = 0 then (1, st S (9 + 8 * i) 1) else (0, S) := rfl
theorem exO_y {S : Int → Int} {f e x y i : Int} : exO S 121 f e x y i = if i < S 1 ∧ di S i ≠ 0 then (1, st S (9 + 8 * i) 0) else (0, S) := rfl
theorem exO_b {S : Int → Int} {f e x y i : Int} : exO S 98 f e x y i = if best S = -1 then (0, S) else (1, disB S) := rfl
theorem exO_a {S : Int → Int} {f e x y i : Int} : exO S 97 f e x y i = (1, (disA 49 S 0).1) := rfl
def OKf (W F Q A R : Int → Int) (k : Int) : Prop := (W k = 112 → (0 ≤ F k ∧ F k ≤ 6) ∧ (0 ≤ Q k ∧ Q k ≤ 6) ∧ (1 ≤ A k ∧ A k ≤ 1000) ∧ 1 ≤ R k ∧ R k ≤ 9) ∧ (W k = 120 ∨ W k = 121 → 0 ≤ F k ∧ F k ≤ 99) ∧ (W k = 97 ∨ W k = 98 ∨ W k = 112 ∨ W k = 120 ∨ W k = 121)
theorem ite_1 {P : Prop} [Decidable P] {S T : Int → Int} (h : (if P then ((1 : Int), S) else (0, T)).1 = 1) : P := by
  by_cases c : P
  · exact c
  · rw [if_neg c] at h
    exact absurd h (show ¬ (0 : Int) = 1 by decide)
theorem exO_0 {S : Int → Int} {s f e x y i : Int} (h : (exO S s f e x y i).1 = 0) : (exO S s f e x y i).2 = S := by
  unfold exO at h ⊢
  have key : ∀ (P : Prop) [Decidable P] (T : Int → Int) (Z : Int × (Int → Int)), (if P then ((1 : Int), T) else (0, S)).1 = 0 → (if P then ((1 : Int), T) else (0, S)).2 = S := fun P _ T Z q => by
    by_cases c : P
    · rw [if_pos c] at q
      exact absurd q (show ¬ (1 : Int) = 0 by decide)
    · rw [if_neg c]
  by_cases c1 : s = 112
  · rw [if_pos c1] at h ⊢
    exact key _ _ (0, S) h
  · rw [if_neg c1] at h ⊢
    by_cases c2 : s = 120
    · rw [if_pos c2] at h ⊢
      exact key _ _ (0, S) h
    · rw [if_neg c2] at h ⊢
      by_cases c3 : s = 121
      · rw [if_pos c3] at h ⊢
        exact key _ _ (0, S) h
      · rw [if_neg c3] at h ⊢
        by_cases c4 : s = 98
        · rw [if_pos c4] at h ⊢
          by_cases c : best S = -1
          · rw [if_pos c]
          · rw [if_neg c] at h
            exact absurd h (show ¬ (1 : Int) = 0 by decide)
        · rw [if_neg c4] at h ⊢
          by_cases c5 : s = 97
          · rw [if_pos c5] at h
            exact absurd h (show ¬ (1 : Int) = 0 by decide)
          · rw [if_neg c5]
/-- what is known of the best ring when it is asked for -/
def BI2 (M G D B BR : Int → Int) : Prop := DBB M D B ∧ (best M ≠ -1 → G 7 = (((RS M).getD (best M).toNat []).length : Int) ∧ RWS BR ((RS M).getD (best M).toNat []))
theorem pm_10 (B0 B1 B2 B3 B4 B5 B6 B7 B8 B9 : va_W) : [B0, B1, B2, B3, B4, B5, B6, B7, B8, B9].Perm ([] ++ [B0, B1, B2, B3, B4, B5, B6, B7, B8, B9]) := List.Perm.refl _
theorem pr_10 (B0 B1 B2 B3 B4 B5 B6 B7 B8 B9 : va_W) : ([] ++ [B0, B1, B2, B3, B4, B5, B6, B7, B8, B9]).Perm [B0, B1, B2, B3, B4, B5, B6, B7, B8, B9] := (pm_10 B0 B1 B2 B3 B4 B5 B6 B7 B8 B9).symm
theorem pm_10_0_1 (B0 B1 B2 B3 B4 B5 B6 B7 B8 B9 : va_W) : [B0, B1, B2, B3, B4, B5, B6, B7, B8, B9].Perm ([B0, B1] ++ [B2, B3, B4, B5, B6, B7, B8, B9]) := List.Perm.trans (List.Perm.refl _) (List.Perm.cons _ (List.Perm.refl _))
theorem pr_10_0_1 (B0 B1 B2 B3 B4 B5 B6 B7 B8 B9 : va_W) : ([B0, B1] ++ [B2, B3, B4, B5, B6, B7, B8, B9]).Perm [B0, B1, B2, B3, B4, B5, B6, B7, B8, B9] := (pm_10_0_1 B0 B1 B2 B3 B4 B5 B6 B7 B8 B9).symm
theorem pm_10_0_1_2_3_4_5_6 (B0 B1 B2 B3 B4 B5 B6 B7 B8 B9 : va_W) : [B0, B1, B2, B3, B4, B5, B6, B7, B8, B9].Perm ([B0, B1, B2, B3, B4, B5, B6] ++ [B7, B8, B9]) := List.Perm.trans (List.Perm.refl _) (List.Perm.trans (List.Perm.cons _ (List.Perm.refl _)) (List.Perm.trans (List.Perm.cons _ (List.Perm.cons _ (List.Perm.refl _))) (List.Perm.trans (List.Perm.cons _ (List.Perm.cons _ (List.Perm.cons _ (List.Perm.refl _)))) (List.Perm.trans (List.Perm.cons _ (List.Perm.cons _ (List.Perm.cons _ (List.Perm.cons _ (List.Perm.refl _))))) (List.Perm.trans (List.Perm.cons _ (List.Perm.cons _ (List.Perm.cons _ (List.Perm.cons _ (List.Perm.cons _ (List.Perm.refl _)))))) (List.Perm.cons _ (List.Perm.cons _ (List.Perm.cons _ (List.Perm.cons _ (List.Perm.cons _ (List.Perm.cons _ (List.Perm.refl _))))))))))))
theorem pr_10_0_1_2_3_4_5_6 (B0 B1 B2 B3 B4 B5 B6 B7 B8 B9 : va_W) : ([B0, B1, B2, B3, B4, B5, B6] ++ [B7, B8, B9]).Perm [B0, B1, B2, B3, B4, B5, B6, B7, B8, B9] := (pm_10_0_1_2_3_4_5_6 B0 B1 B2 B3 B4 B5 B6 B7 B8 B9).symm
theorem pm_12 (B0 B1 B2 B3 B4 B5 B6 B7 B8 B9 B10 B11 : va_W) : [B0, B1, B2, B3, B4, B5, B6, B7, B8, B9, B10, B11].Perm ([] ++ [B0, B1, B2, B3, B4, B5, B6, B7, B8, B9, B10, B11]) := List.Perm.refl _
theorem pr_12 (B0 B1 B2 B3 B4 B5 B6 B7 B8 B9 B10 B11 : va_W) : ([] ++ [B0, B1, B2, B3, B4, B5, B6, B7, B8, B9, B10, B11]).Perm [B0, B1, B2, B3, B4, B5, B6, B7, B8, B9, B10, B11] := (pm_12 B0 B1 B2 B3 B4 B5 B6 B7 B8 B9 B10 B11).symm
theorem pm_12_0_1 (B0 B1 B2 B3 B4 B5 B6 B7 B8 B9 B10 B11 : va_W) : [B0, B1, B2, B3, B4, B5, B6, B7, B8, B9, B10, B11].Perm ([B0, B1] ++ [B2, B3, B4, B5, B6, B7, B8, B9, B10, B11]) := List.Perm.trans (List.Perm.refl _) (List.Perm.cons _ (List.Perm.refl _))
theorem pr_12_0_1 (B0 B1 B2 B3 B4 B5 B6 B7 B8 B9 B10 B11 : va_W) : ([B0, B1] ++ [B2, B3, B4, B5, B6, B7, B8, B9, B10, B11]).Perm [B0, B1, B2, B3, B4, B5, B6, B7, B8, B9, B10, B11] := (pm_12_0_1 B0 B1 B2 B3 B4 B5 B6 B7 B8 B9 B10 B11).symm
theorem pm_12_0_1_2_3_4_5_6 (B0 B1 B2 B3 B4 B5 B6 B7 B8 B9 B10 B11 : va_W) : [B0, B1, B2, B3, B4, B5, B6, B7, B8, B9, B10, B11].Perm ([B0, B1, B2, B3, B4, B5, B6] ++ [B7, B8, B9, B10, B11]) := List.Perm.trans (List.Perm.refl _) (List.Perm.trans (List.Perm.cons _ (List.Perm.refl _)) (List.Perm.trans (List.Perm.cons _ (List.Perm.cons _ (List.Perm.refl _))) (List.Perm.trans (List.Perm.cons _ (List.Perm.cons _ (List.Perm.cons _ (List.Perm.refl _)))) (List.Perm.trans (List.Perm.cons _ (List.Perm.cons _ (List.Perm.cons _ (List.Perm.cons _ (List.Perm.refl _))))) (List.Perm.trans (List.Perm.cons _ (List.Perm.cons _ (List.Perm.cons _ (List.Perm.cons _ (List.Perm.cons _ (List.Perm.refl _)))))) (List.Perm.cons _ (List.Perm.cons _ (List.Perm.cons _ (List.Perm.cons _ (List.Perm.cons _ (List.Perm.cons _ (List.Perm.refl _))))))))))))
theorem pr_12_0_1_2_3_4_5_6 (B0 B1 B2 B3 B4 B5 B6 B7 B8 B9 B10 B11 : va_W) : ([B0, B1, B2, B3, B4, B5, B6] ++ [B7, B8, B9, B10, B11]).Perm [B0, B1, B2, B3, B4, B5, B6, B7, B8, B9, B10, B11] := (pm_12_0_1_2_3_4_5_6 B0 B1 B2 B3 B4 B5 B6 B7 B8 B9 B10 B11).symm
theorem pm_12_0_1_2_4_5_6 (B0 B1 B2 B3 B4 B5 B6 B7 B8 B9 B10 B11 : va_W) : [B0, B1, B2, B3, B4, B5, B6, B7, B8, B9, B10, B11].Perm ([B0, B1, B2, B4, B5, B6] ++ [B3, B7, B8, B9, B10, B11]) := List.Perm.trans (List.Perm.refl _) (List.Perm.trans (List.Perm.cons _ (List.Perm.refl _)) (List.Perm.trans (List.Perm.cons _ (List.Perm.cons _ (List.Perm.refl _))) (List.Perm.trans (List.Perm.cons _ (List.Perm.cons _ (List.Perm.cons _ (List.perm_middle (l₁ := [B3]) (a := B4) (l₂ := [B5, B6, B7, B8, B9, B10, B11]))))) (List.Perm.trans (List.Perm.cons _ (List.Perm.cons _ (List.Perm.cons _ (List.Perm.cons _ (List.perm_middle (l₁ := [B3]) (a := B5) (l₂ := [B6, B7, B8, B9, B10, B11])))))) (List.Perm.cons _ (List.Perm.cons _ (List.Perm.cons _ (List.Perm.cons _ (List.Perm.cons _ (List.perm_middle (l₁ := [B3]) (a := B6) (l₂ := [B7, B8, B9, B10, B11])))))))))))
theorem pr_12_0_1_2_4_5_6 (B0 B1 B2 B3 B4 B5 B6 B7 B8 B9 B10 B11 : va_W) : ([B0, B1, B2, B4, B5, B6] ++ [B3, B7, B8, B9, B10, B11]).Perm [B0, B1, B2, B3, B4, B5, B6, B7, B8, B9, B10, B11] := (pm_12_0_1_2_4_5_6 B0 B1 B2 B3 B4 B5 B6 B7 B8 B9 B10 B11).symm
set_option maxHeartbeats 800000 in
set_option maxRecDepth 100000 in
theorem c_X6_can (l : Launch) (D : va_G) (cA : Nat → ClassId) (a : Nat → Nat) (G M R1 N1 D1 B1 BR W F Q A T S : Int → Int) (k : Int) (hI : Inv S) (hA : Ag S M) (hok : OKf W F Q A T k) (hk : 0 ≤ k ∧ k < 50) : MI (U := (Int → Int) × (Int → Int) × (Int → Int) × (Int → Int) × (Int → Int) × (Int → Int)) l yX6_can cX6_can 3 (some .boolean) (rmN 6 0 0) D cA [.ref (a 0), .int (iI k)] [mO a G, [(a 1, aJ (cA 0) 325 M)], [(a 7, aJ (cA 0) 8 R1)], [(a 8, aJ (cA 0) 9 N1)], [(a 5, aJ (cA 0) 49 D1)], [(a 6, aJ (cA 0) 490 B1)], [(a 9, aJ (cA 0) 8 BR)], [(a 14, aJ (cA 0) 50 W)], [(a 15, aJ (cA 0) 50 F)], [(a 16, aJ (cA 0) 50 Q)]] (fun z u => z = (exO S (W k) (F k) (Q k) (A k) (T k) (F k)).1 ∧ KG G u.1 ∧ (W k = 98 → BI2 M u.1 u.2.2.2.1 u.2.2.2.2.1 u.2.2.2.2.2)) (fun u => [mO a u.1, [(a 1, aJ (cA 0) 325 M)], [(a 7, aJ (cA 0) 8 u.2.1)], [(a 8, aJ (cA 0) 9 u.2.2.1)], [(a 5, aJ (cA 0) 49 u.2.2.2.1)], [(a 6, aJ (cA 0) 490 u.2.2.2.2.1)], [(a 9, aJ (cA 0) 8 u.2.2.2.2.2)], [(a 14, aJ (cA 0) 50 W)], [(a 15, aJ (cA 0) 50 F)], [(a 16, aJ (cA 0) 50 Q)]]) := by
  refine m_startZ pn_X6 rfl (List.forall_mem_cons.mpr ⟨rfl, List.forall_mem_cons.mpr ⟨rfl, fun _ h => absurd h List.not_mem_nil⟩⟩) (Nat.le_of_ble_eq_true rfl) ?_
  intro K C e1 e2 e3 hin hR
  subst e1 e2 e3
  have hN := hI.2.1
  have hQ := hI.1
  have hM := Ag_h hA hN.1
  have hM0 := hM.1
  have hM1 := hM.2.1
  have hwk := hok.2.2
  show J K 0 0 [mO a G, [(a 1, aJ ((kC K) 0) 325 M)], [(a 7, aJ ((kC K) 0) 8 R1)], [(a 8, aJ ((kC K) 0) 9 N1)], [(a 5, aJ ((kC K) 0) 49 D1)], [(a 6, aJ ((kC K) 0) 490 B1)], [(a 9, aJ ((kC K) 0) 8 BR)], [(a 14, aJ ((kC K) 0) 50 W)], [(a 15, aJ ((kC K) 0) 50 F)], [(a 16, aJ ((kC K) 0) 50 Q)]] [some (.ref (a 0)), some (.int (iI k)), none] 0 []
  refine j_aload_n C dX6_can_0 rfl ?_
  refine j_get C 0 0 26 rfl rfl rfl wU_X6 (by decide) wF_X6_52 rfl dX6_can_1 ?_
  refine j_iload_n C dX6_can_4 rfl ?_
  refine j_iald C 8 0 rfl rfl dX6_can_5 (by decide) (by omega) (by omega) ?_
  refine j_istn_2 C dX6_can_6 rfl ?_
  refine j_aload_n C dX6_can_7 rfl ?_
  refine j_get C 0 0 25 rfl rfl rfl wU_X6 (by decide) wF_X6_49 rfl dX6_can_8 ?_
  refine j_iload_n C dX6_can_11 rfl ?_
  refine j_iald C 7 0 rfl rfl dX6_can_12 (by decide) (by omega) (by omega) ?_
  by_cases q13_98 : W k = 98
  · refine j_lookup (tgt := 154) (v := 98) C dX6_can_13 q13_98 (by decide) (by decide) (by decide) rfl (by decide) ?_
    refine j_aload_n C dX6_can_154 rfl ?_
    refine j_aload_n C dX6_can_155 rfl ?_
    refine j_get C 0 0 0 rfl rfl rfl wU_X6 (by decide) wF_X6_7 rfl dX6_can_156 ?_
    refine j_perm (pm_10_0_1_2_3_4_5_6 _ _ _ _ _ _ _ _ _ _) ?_
    refine j_callVi C (As := [.ref _]) (c_X6_findsBest _ _ _ _ _ _ _ _ _ _ _ _ (by exact Ag_Inv hI hA)) 1 nf_X6_findsBest (jb := 0) rfl rfl wL_X6_138 wI_X6_findsBest wSe_X6_X6_findsBest wIn_X6 wC_X6_findsBest rfl rfl (by decide) dX6_can_159 (Nat.le_of_ble_eq_true rfl) ⟨Nat.le_of_ble_eq_true rfl, Nat.le_of_ble_eq_true rfl⟩ (fun x159 u159 h159 => ?_)
    refine j_perm (pr_10_0_1_2_3_4_5_6 _ _ _ _ _ _ _ _ _ _) ?_
    obtain ⟨hk159, hb159, hd159, hx159, hn159⟩ := h159
    refine hR (u159.1, u159.2.1, u159.2.2.1, u159.2.2.2.1, u159.2.2.2.2.1, u159.2.2.2.2.2) dX6_can_162 (by rw [hx159]; split; exact Or.inl rfl; exact Or.inr rfl) ?_ rfl (Nat.le_of_ble_eq_true rfl) (Nat.le_of_ble_eq_true rfl)
    refine ⟨?_, hk159, fun _ => ⟨hd159, hn159⟩⟩
    rw [q13_98, exO_b, hx159, (best_ag hI hA).1]
    split <;> rfl
  by_cases q13_112 : W k = 112
  · refine j_lookup (tgt := 56) (v := 112) C dX6_can_13 q13_112 (by decide) (by decide) (by decide) rfl (by decide) ?_
    have hf := hok.1 q13_112
    refine j_aload_n C dX6_can_56 rfl ?_
    refine j_iload_n C dX6_can_57 rfl ?_
    refine j_perm (pm_10_0_1 _ _ _ _ _ _ _ _ _ _) ?_
    refine j_callVi C (As := [.int (iI _)]) (c_X6_isParty _ _ _ _ _ _ _ (by first | assumption | omega) (by first | assumption | omega)) 1 nf_X6_isParty (jb := 0) rfl rfl wL_X6_153 wI_X6_isParty wSe_X6_X6_isParty wIn_X6 wC_X6_isParty rfl rfl (by decide) dX6_can_58 (Nat.le_of_ble_eq_true rfl) ⟨Nat.le_of_ble_eq_true rfl, Nat.le_of_ble_eq_true rfl⟩ (fun x58 u58 h58 => ?_)
    refine j_perm (pr_10_0_1 _ _ _ _ _ _ _ _ _ _) ?_
    refine j_if_eq (tgt := 102) C dX6_can_61 (by decide) (by omega) (by omega) (fun c61 => ?_) (fun c61 => ?_)
    · refine j_iconst C dX6_can_102 ?_
      refine hR (G, R1, N1, D1, B1, BR) dX6_can_103 (by omega) ?_ rfl (Nat.le_of_ble_eq_true rfl) (Nat.le_of_ble_eq_true rfl)
      refine ⟨?_, KG_rfl G, fun q => by omega⟩
      rw [q13_112, exO_p]
      first | (rw [if_pos (by omega)]; done) | (rw [if_neg (by omega)]; done)
    · refine j_aload_n C dX6_can_64 rfl ?_
      refine j_aload_n C dX6_can_65 rfl ?_
      refine j_get C 0 0 27 rfl rfl rfl wU_X6 (by decide) wF_X6_55 rfl dX6_can_66 ?_
      refine j_iload_n C dX6_can_69 rfl ?_
      refine j_iald C 9 0 rfl rfl dX6_can_70 (by decide) (by omega) (by omega) ?_
      refine j_perm (pm_10_0_1 _ _ _ _ _ _ _ _ _ _) ?_
      refine j_callVi C (As := [.int (iI _)]) (c_X6_isParty _ _ _ _ _ _ _ (by first | assumption | omega) (by first | assumption | omega)) 1 nf_X6_isParty (jb := 0) rfl rfl wL_X6_153 wI_X6_isParty wSe_X6_X6_isParty wIn_X6 wC_X6_isParty rfl rfl (by decide) dX6_can_71 (Nat.le_of_ble_eq_true rfl) ⟨Nat.le_of_ble_eq_true rfl, Nat.le_of_ble_eq_true rfl⟩ (fun x71 u71 h71 => ?_)
      refine j_perm (pr_10_0_1 _ _ _ _ _ _ _ _ _ _) ?_
      have q71 := ite01 h71
      refine j_if_eq (tgt := 102) C dX6_can_74 (by decide) (by omega) (by omega) (fun c74 => ?_) (fun c74 => ?_)
      · refine j_iconst C dX6_can_102 ?_
        refine hR (G, R1, N1, D1, B1, BR) dX6_can_103 (by omega) ?_ rfl (Nat.le_of_ble_eq_true rfl) (Nat.le_of_ble_eq_true rfl)
        refine ⟨?_, KG_rfl G, fun q => by omega⟩
        rw [q13_112, exO_p]
        first | (rw [if_pos (by omega)]; done) | (rw [if_neg (by omega)]; done)
      · refine j_iload_n C dX6_can_77 rfl ?_
        refine j_aload_n C dX6_can_78 rfl ?_
        refine j_get C 0 0 27 rfl rfl rfl wU_X6 (by decide) wF_X6_55 rfl dX6_can_79 ?_
        refine j_iload_n C dX6_can_82 rfl ?_
        refine j_iald C 9 0 rfl rfl dX6_can_83 (by decide) (by omega) (by omega) ?_
        refine j_icmp_eq (tgt := 102) C dX6_can_84 (by decide) (by omega) (by omega) (by omega) (by omega) (fun c84 => ?_) (fun c84 => ?_)
        · refine j_iconst C dX6_can_102 ?_
          refine hR (G, R1, N1, D1, B1, BR) dX6_can_103 (by omega) ?_ rfl (Nat.le_of_ble_eq_true rfl) (Nat.le_of_ble_eq_true rfl)
          refine ⟨?_, KG_rfl G, fun q => by omega⟩
          rw [q13_112, exO_p]
          first | (rw [if_pos (by omega)]; done) | (rw [if_neg (by omega)]; done)
        · refine j_aload_n C dX6_can_87 rfl ?_
          refine j_get C 0 0 0 rfl rfl rfl wU_X6 (by decide) wF_X6_7 rfl dX6_can_88 ?_
          refine j_iconst C dX6_can_91 ?_
          refine j_iald C 1 0 rfl rfl dX6_can_92 (by decide) (by omega) (by omega) ?_
          refine j_bipush C dX6_can_93 (by decide) ?_
          refine j_icmp_ge (tgt := 102) C dX6_can_95 (by decide) (by omega) (by omega) (by omega) (by omega) (fun c95 => ?_) (fun c95 => ?_)
          · refine j_iconst C dX6_can_102 ?_
            refine hR (G, R1, N1, D1, B1, BR) dX6_can_103 (by omega) ?_ rfl (Nat.le_of_ble_eq_true rfl) (Nat.le_of_ble_eq_true rfl)
            refine ⟨?_, KG_rfl G, fun q => by omega⟩
            rw [q13_112, exO_p]
            first | (rw [if_pos (by omega)]; done) | (rw [if_neg (by omega)]; done)
          · refine j_iconst C dX6_can_98 ?_
            refine j_goto (tgt := 103) C dX6_can_99 (by decide) ?_
            refine hR (G, R1, N1, D1, B1, BR) dX6_can_103 (by omega) ?_ rfl (Nat.le_of_ble_eq_true rfl) (Nat.le_of_ble_eq_true rfl)
            refine ⟨?_, KG_rfl G, fun q => by omega⟩
            rw [q13_112, exO_p]
            first | (rw [if_pos (by omega)]; done) | (rw [if_neg (by omega)]; done)
  by_cases q13_120 : W k = 120
  · refine j_lookup (tgt := 104) (v := 120) C dX6_can_13 q13_120 (by decide) (by decide) (by decide) rfl (by decide) ?_
    have hf := hok.2.1 (Or.inl q13_120)
    refine j_aload_n C dX6_can_104 rfl ?_
    refine j_iload_n C dX6_can_105 rfl ?_
    refine j_perm (pm_10_0_1 _ _ _ _ _ _ _ _ _ _) ?_
    refine j_callVi C (As := [.int (iI _)]) (c_X6_isPromise _ _ _ _ _ _ _ (by first | assumption | omega) (by first | assumption | omega)) 1 nf_X6_isPromise (jb := 0) rfl rfl wL_X6_160 wI_X6_isPromise wSe_X6_X6_isPromise wIn_X6 wC_X6_isPromise rfl rfl (by decide) dX6_can_106 (Nat.le_of_ble_eq_true rfl) ⟨Nat.le_of_ble_eq_true rfl, Nat.le_of_ble_eq_true rfl⟩ (fun x106 u106 h106 => ?_)
    refine j_perm (pr_10_0_1 _ _ _ _ _ _ _ _ _ _) ?_
    have q106 := ite01 h106
    refine j_if_eq (tgt := 124) C dX6_can_109 (by decide) (by omega) (by omega) (fun c109 => ?_) (fun c109 => ?_)
    · refine j_iconst C dX6_can_124 ?_
      refine hR (G, R1, N1, D1, B1, BR) dX6_can_125 (by omega) ?_ rfl (Nat.le_of_ble_eq_true rfl) (Nat.le_of_ble_eq_true rfl)
      refine ⟨?_, KG_rfl G, fun q => by omega⟩
      rw [q13_120, exO_x]
      first | (rw [if_pos (by omega)]; done) | (rw [if_neg (by omega)]; done)
    · refine j_aload_n C dX6_can_112 rfl ?_
      refine j_iload_n C dX6_can_113 rfl ?_
      refine j_perm (pm_10_0_1 _ _ _ _ _ _ _ _ _ _) ?_
      refine j_callVi C (As := [.int (iI _)]) (c_X6_isFree _ _ _ _ _ _ (S) _ (by first | assumption | omega) (by first | assumption | omega) (by first | assumption | omega)) 1 nf_X6_isFree (jb := 0) rfl rfl wL_X6_163 wI_X6_isFree wSe_X6_X6_isFree wIn_X6 wC_X6_isFree rfl rfl (by decide) dX6_can_114 (Nat.le_of_ble_eq_true rfl) ⟨Nat.le_of_ble_eq_true rfl, Nat.le_of_ble_eq_true rfl⟩ (fun x114 u114 h114 => ?_)
      refine j_perm (pr_10_0_1 _ _ _ _ _ _ _ _ _ _) ?_
      have q114 := ite01 h114
      refine j_if_eq (tgt := 124) C dX6_can_117 (by decide) (by omega) (by omega) (fun c117 => ?_) (fun c117 => ?_)
      · refine j_iconst C dX6_can_124 ?_
        refine hR (G, R1, N1, D1, B1, BR) dX6_can_125 (by omega) ?_ rfl (Nat.le_of_ble_eq_true rfl) (Nat.le_of_ble_eq_true rfl)
        refine ⟨?_, KG_rfl G, fun q => by omega⟩
        rw [q13_120, exO_x]
        first | (rw [if_pos (by omega)]; done) | (rw [if_neg (by omega)]; done)
      · refine j_iconst C dX6_can_120 ?_
        refine j_goto (tgt := 125) C dX6_can_121 (by decide) ?_
        refine hR (G, R1, N1, D1, B1, BR) dX6_can_125 (by omega) ?_ rfl (Nat.le_of_ble_eq_true rfl) (Nat.le_of_ble_eq_true rfl)
        refine ⟨?_, KG_rfl G, fun q => by omega⟩
        rw [q13_120, exO_x]
        first | (rw [if_pos (by omega)]; done) | (rw [if_neg (by omega)]; done)
  by_cases q13_121 : W k = 121
  · refine j_lookup (tgt := 126) (v := 121) C dX6_can_13 q13_121 (by decide) (by decide) (by decide) rfl (by decide) ?_
    have hf := hok.2.1 (Or.inr q13_121)
    refine j_aload_n C dX6_can_126 rfl ?_
    refine j_iload_n C dX6_can_127 rfl ?_
    refine j_perm (pm_10_0_1 _ _ _ _ _ _ _ _ _ _) ?_
    refine j_callVi C (As := [.int (iI _)]) (c_X6_isPromise _ _ _ _ _ _ _ (by first | assumption | omega) (by first | assumption | omega)) 1 nf_X6_isPromise (jb := 0) rfl rfl wL_X6_160 wI_X6_isPromise wSe_X6_X6_isPromise wIn_X6 wC_X6_isPromise rfl rfl (by decide) dX6_can_128 (Nat.le_of_ble_eq_true rfl) ⟨Nat.le_of_ble_eq_true rfl, Nat.le_of_ble_eq_true rfl⟩ (fun x128 u128 h128 => ?_)
    refine j_perm (pr_10_0_1 _ _ _ _ _ _ _ _ _ _) ?_
    have q128 := ite01 h128
    refine j_if_eq (tgt := 152) C dX6_can_131 (by decide) (by omega) (by omega) (fun c131 => ?_) (fun c131 => ?_)
    · refine j_iconst C dX6_can_152 ?_
      refine hR (G, R1, N1, D1, B1, BR) dX6_can_153 (by omega) ?_ rfl (Nat.le_of_ble_eq_true rfl) (Nat.le_of_ble_eq_true rfl)
      refine ⟨?_, KG_rfl G, fun q => by omega⟩
      rw [q13_121, exO_y]
      first | (rw [if_pos (by omega)]; done) | (rw [if_neg (by omega)]; done)
    · have e := Ag_c hA hf.1 (show F k < S 1 by omega)
      have fi := hI.2.2 (F k) hf.1 (by omega)
      refine j_aload_n C dX6_can_134 rfl ?_
      refine j_get C 0 0 0 rfl rfl rfl wU_X6 (by decide) wF_X6_7 rfl dX6_can_135 ?_
      refine j_iload_n C dX6_can_138 rfl ?_
      refine j_iconst C dX6_can_139 ?_
      refine j_perm (pm_10 _ _ _ _ _ _ _ _ _ _) ?_
      refine j_callSi C (As := [.int (iI _), .int (iI _)]) (c_X6_p _ _ _ _ _ ) 2 nf_X6_p.2 wL_X6_79 wS_X6_p wIn_X6 wC_X6_p rfl rfl (by decide) dX6_can_140 (Nat.le_of_ble_eq_true rfl) ⟨Nat.le_of_ble_eq_true rfl, Nat.le_of_ble_eq_true rfl⟩ (fun x140 u140 h140 => ?_)
      refine j_perm (pr_10 _ _ _ _ _ _ _ _ _ _) ?_
      subst h140
      refine j_iald C 1 0 rfl rfl dX6_can_143 (by decide) (by omega) (by omega) ?_
      refine j_iconst C dX6_can_144 ?_
      refine j_icmp_ne (tgt := 152) C dX6_can_145 (by decide) (by omega) (by omega) (by omega) (by omega) (fun c145 => ?_) (fun c145 => ?_)
      · refine j_iconst C dX6_can_152 ?_
        refine hR (G, R1, N1, D1, B1, BR) dX6_can_153 (by omega) ?_ rfl (Nat.le_of_ble_eq_true rfl) (Nat.le_of_ble_eq_true rfl)
        refine ⟨?_, KG_rfl G, fun q => by omega⟩
        rw [q13_121, exO_y]
        first | (rw [if_pos (by omega)]; done) | (rw [if_neg (by omega)]; done)
      · refine j_iconst C dX6_can_148 ?_
        refine j_goto (tgt := 153) C dX6_can_149 (by decide) ?_
        refine hR (G, R1, N1, D1, B1, BR) dX6_can_153 (by omega) ?_ rfl (Nat.le_of_ble_eq_true rfl) (Nat.le_of_ble_eq_true rfl)
        refine ⟨?_, KG_rfl G, fun q => by omega⟩
        rw [q13_121, exO_y]
        first | (rw [if_pos (by omega)]; done) | (rw [if_neg (by omega)]; done)
  refine j_lookupD (tgt := 163) C dX6_can_13 (by omega) (by omega) (by decide) (by show (if (98 : Int) = _ then (141 : Int) else (if (112 : Int) = _ then (43 : Int) else (if (120 : Int) = _ then (91 : Int) else (if (121 : Int) = _ then (113 : Int) else (150 : Int))))) = _; omega) (by decide) ?_
  refine j_iconst C dX6_can_163 ?_
  refine hR (G, R1, N1, D1, B1, BR) dX6_can_164 (by omega) ?_ rfl (Nat.le_of_ble_eq_true rfl) (Nat.le_of_ble_eq_true rfl)
  refine ⟨?_, KG_rfl G, fun q => by omega⟩
  rw [show W k = 97 by omega, exO_a]
set_option maxHeartbeats 800000 in
set_option maxRecDepth 100000 in
theorem c_X6_does (l : Launch) (D : va_G) (cA : Nat → ClassId) (a : Nat → Nat) (G M R1 N1 D1 B1 BR W F Q A T S : Int → Int) (k : Int) (hI : Inv S) (hA : Ag S M) (hok : OKf W F Q A T k) (hk : 0 ≤ k ∧ k < 50) (hx : (exO S (W k) (F k) (Q k) (A k) (T k) (F k)).1 = 1) (hbi : W k = 98 → BI2 M G D1 B1 BR) : MV (U := (Int → Int) × (Int → Int) × (Int → Int) × (Int → Int) × (Int → Int) × (Int → Int) × (Int → Int)) l yX6_does cX6_does 2 none (rmN 7 0 0) D cA [.ref (a 0), .int (iI k)] [mO a G, [(a 1, aJ (cA 0) 325 M)], [(a 7, aJ (cA 0) 8 R1)], [(a 8, aJ (cA 0) 9 N1)], [(a 5, aJ (cA 0) 49 D1)], [(a 6, aJ (cA 0) 490 B1)], [(a 9, aJ (cA 0) 8 BR)], [(a 14, aJ (cA 0) 50 W)], [(a 15, aJ (cA 0) 50 F)], [(a 16, aJ (cA 0) 50 Q)], [(a 17, aJ (cA 0) 50 A)], [(a 18, aJ (cA 0) 50 T)]] (fun u => Ag (exO S (W k) (F k) (Q k) (A k) (T k) (F k)).2 u.2.1 ∧ KG G u.1) (fun u => [mO a u.1, [(a 1, aJ (cA 0) 325 u.2.1)], [(a 7, aJ (cA 0) 8 u.2.2.1)], [(a 8, aJ (cA 0) 9 u.2.2.2.1)], [(a 5, aJ (cA 0) 49 u.2.2.2.2.1)], [(a 6, aJ (cA 0) 490 u.2.2.2.2.2.1)], [(a 9, aJ (cA 0) 8 u.2.2.2.2.2.2)], [(a 14, aJ (cA 0) 50 W)], [(a 15, aJ (cA 0) 50 F)], [(a 16, aJ (cA 0) 50 Q)], [(a 17, aJ (cA 0) 50 A)], [(a 18, aJ (cA 0) 50 T)]]) := by
  refine m_startV pn_X6 rfl (List.forall_mem_cons.mpr ⟨rfl, List.forall_mem_cons.mpr ⟨rfl, fun _ h => absurd h List.not_mem_nil⟩⟩) (Nat.le_of_ble_eq_true rfl) ?_
  intro K C e1 e2 e3 hin hR
  subst e1 e2 e3
  have hN := hI.2.1
  have hQ := hI.1
  have hM := Ag_h hA hN.1
  have hM0 := hM.1
  have hM1 := hM.2.1
  have hwk := hok.2.2
  show J K 0 0 [mO a G, [(a 1, aJ ((kC K) 0) 325 M)], [(a 7, aJ ((kC K) 0) 8 R1)], [(a 8, aJ ((kC K) 0) 9 N1)], [(a 5, aJ ((kC K) 0) 49 D1)], [(a 6, aJ ((kC K) 0) 490 B1)], [(a 9, aJ ((kC K) 0) 8 BR)], [(a 14, aJ ((kC K) 0) 50 W)], [(a 15, aJ ((kC K) 0) 50 F)], [(a 16, aJ ((kC K) 0) 50 Q)], [(a 17, aJ ((kC K) 0) 50 A)], [(a 18, aJ ((kC K) 0) 50 T)]] [some (.ref (a 0)), some (.int (iI k))] 0 []
  refine j_aload_n C dX6_does_0 rfl ?_
  refine j_get C 0 0 25 rfl rfl rfl wU_X6 (by decide) wF_X6_49 rfl dX6_does_1 ?_
  refine j_iload_n C dX6_does_4 rfl ?_
  refine j_iald C 7 0 rfl rfl dX6_does_5 (by decide) (by omega) (by omega) ?_
  have L125 : ∀ (G9 M9 R9 N9 D9 B9 BR9 : Int → Int) (h9z : Ag (exO S (W k) (F k) (Q k) (A k) (T k) (F k)).2 M9 ∧ KG G G9), J K 0 0 [mO a G9, [(a 1, aJ ((kC K) 0) 325 M9)], [(a 7, aJ ((kC K) 0) 8 R9)], [(a 8, aJ ((kC K) 0) 9 N9)], [(a 5, aJ ((kC K) 0) 49 D9)], [(a 6, aJ ((kC K) 0) 490 B9)], [(a 9, aJ ((kC K) 0) 8 BR9)], [(a 14, aJ ((kC K) 0) 50 W)], [(a 15, aJ ((kC K) 0) 50 F)], [(a 16, aJ ((kC K) 0) 50 Q)], [(a 17, aJ ((kC K) 0) 50 A)], [(a 18, aJ ((kC K) 0) 50 T)]] [some (.ref (a 0)), some (.int (iI k))] 125 [] := by
    intro G9 M9 R9 N9 D9 B9 BR9 h9z
    exact hR (G9, M9, R9, N9, D9, B9, BR9) dX6_does_125 (by exact h9z) rfl (Nat.le_of_ble_eq_true rfl) (Nat.le_of_ble_eq_true rfl)
  by_cases q6_97 : W k = 97
  · refine j_lookup (tgt := 82) (v := 97) C dX6_does_6 q6_97 (by decide) (by decide) (by decide) rfl (by decide) ?_
    refine j_aload_n C dX6_does_82 rfl ?_
    refine j_aload_n C dX6_does_83 rfl ?_
    refine j_get C 0 0 0 rfl rfl rfl wU_X6 (by decide) wF_X6_7 rfl dX6_does_84 ?_
    refine j_perm (pm_12_0_1_2_3_4_5_6 _ _ _ _ _ _ _ _ _ _ _ _) ?_
    refine j_callVi C (As := [.ref _]) (c_X6_dischargesAll _ _ _ _ _ _ _ _ _ _ _ _ (by exact Ag_Inv hI hA)) 1 nf_X6_dischargesAll (jb := 0) rfl rfl wL_X6_172 wI_X6_dischargesAll wSe_X6_X6_dischargesAll wIn_X6 wC_X6_dischargesAll rfl rfl (by decide) dX6_does_87 (Nat.le_of_ble_eq_true rfl) ⟨Nat.le_of_ble_eq_true rfl, Nat.le_of_ble_eq_true rfl⟩ (fun x87 u87 h87 => ?_)
    refine j_perm (pr_12_0_1_2_3_4_5_6 _ _ _ _ _ _ _ _ _ _ _ _) ?_
    refine j_pop C dX6_does_90 rfl ?_
    refine j_goto (tgt := 125) C dX6_does_91 (by decide) ?_
    exact L125 _ _ _ _ _ _ _ (by refine ⟨?_, h87.1⟩; rw [q6_97, exO_a]; exact (disA_Ag 49 S M 0 hI hA).1)
  by_cases q6_98 : W k = 98
  · refine j_lookup (tgt := 71) (v := 98) C dX6_does_6 q6_98 (by decide) (by decide) (by decide) rfl (by decide) ?_
    have hx2 := hx
    rw [q6_98, exO_b] at hx2
    have hnb : best S ≠ -1 := fun q => by rw [if_pos q] at hx2; exact absurd hx2 (show ¬ (0 : Int) = 1 by decide)
    have hbb := hbi q6_98
    have hnbM : best M ≠ -1 := by rw [(best_ag hI hA).1]; exact hnb
    refine j_aload_n C dX6_does_71 rfl ?_
    refine j_aload_n C dX6_does_72 rfl ?_
    refine j_get C 0 0 0 rfl rfl rfl wU_X6 (by decide) wF_X6_7 rfl dX6_does_73 ?_
    refine j_perm (pm_12_0_1_2_4_5_6 _ _ _ _ _ _ _ _ _ _ _ _) ?_
    refine j_callVv C (As := [.ref _]) (c_X6_dischargesBest _ _ _ _ _ _ _ _ _ _ _ (by exact Ag_Inv hI hA) (by exact hnbM) (by exact hbb.1) (by exact (hbb.2 hnbM).1) (by exact (hbb.2 hnbM).2)) 1 nf_X6_dischargesBest (jb := 0) rfl rfl wL_X6_142 wI_X6_dischargesBest wSe_X6_X6_dischargesBest wIn_X6 wC_X6_dischargesBest rfl rfl (by decide) dX6_does_76 (Nat.le_of_ble_eq_true rfl) ⟨Nat.le_of_ble_eq_true rfl, Nat.le_of_ble_eq_true rfl⟩ (fun u76 h76 => ?_)
    refine j_perm (pr_12_0_1_2_4_5_6 _ _ _ _ _ _ _ _ _ _ _ _) ?_
    refine j_goto (tgt := 125) C dX6_does_79 (by decide) ?_
    exact L125 _ _ _ _ _ _ _ (by refine ⟨?_, KG_st (KG_rfl G) (by omega)⟩; rw [q6_98, exO_b, if_neg hnb]; exact disB_Ag hI hA hnb)
  by_cases q6_112 : W k = 112
  · refine j_lookup (tgt := 40) (v := 112) C dX6_does_6 q6_112 (by decide) (by decide) (by decide) rfl (by decide) ?_
    have hf := hok.1 q6_112
    have hx2 := hx
    rw [q6_112, exO_p] at hx2
    have hcd := ite_1 hx2
    refine j_aload_n C dX6_does_40 rfl ?_
    refine j_aload_n C dX6_does_41 rfl ?_
    refine j_get C 0 0 26 rfl rfl rfl wU_X6 (by decide) wF_X6_52 rfl dX6_does_42 ?_
    refine j_iload_n C dX6_does_45 rfl ?_
    refine j_iald C 8 0 rfl rfl dX6_does_46 (by decide) (by omega) (by omega) ?_
    refine j_aload_n C dX6_does_47 rfl ?_
    refine j_get C 0 0 27 rfl rfl rfl wU_X6 (by decide) wF_X6_55 rfl dX6_does_48 ?_
    refine j_iload_n C dX6_does_51 rfl ?_
    refine j_iald C 9 0 rfl rfl dX6_does_52 (by decide) (by omega) (by omega) ?_
    refine j_aload_n C dX6_does_53 rfl ?_
    refine j_get C 0 0 28 rfl rfl rfl wU_X6 (by decide) wF_X6_58 rfl dX6_does_54 ?_
    refine j_iload_n C dX6_does_57 rfl ?_
    refine j_iald C 10 0 rfl rfl dX6_does_58 (by decide) (by omega) (by omega) ?_
    refine j_aload_n C dX6_does_59 rfl ?_
    refine j_get C 0 0 29 rfl rfl rfl wU_X6 (by decide) wF_X6_61 rfl dX6_does_60 ?_
    refine j_iload_n C dX6_does_63 rfl ?_
    refine j_iald C 11 0 rfl rfl dX6_does_64 (by decide) (by omega) (by omega) ?_
    refine j_perm (pm_12_0_1 _ _ _ _ _ _ _ _ _ _ _ _) ?_
    refine j_callVv C (As := [.int (iI _), .int (iI _), .int (iI _), .int (iI _)]) (c_X6_makes _ _ _ _ _ _ _ _ _ _ (by first | assumption | omega)) 4 nf_X6_makes (jb := 0) rfl rfl wL_X6_156 wI_X6_makes wSe_X6_X6_makes wIn_X6 wC_X6_makes rfl rfl (by decide) dX6_does_65 (Nat.le_of_ble_eq_true rfl) ⟨Nat.le_of_ble_eq_true rfl, Nat.le_of_ble_eq_true rfl⟩ (fun u65 h65 => ?_)
    refine j_perm (pr_12_0_1 _ _ _ _ _ _ _ _ _ _ _ _) ?_
    refine j_goto (tgt := 125) C dX6_does_68 (by decide) ?_
    exact L125 _ _ _ _ _ _ _ (by refine ⟨?_, KG_rfl G⟩; rw [q6_112, exO_p, if_pos hcd]; exact mk_Ag hI hA (by omega) _ _ _ _)
  refine j_lookupD (tgt := 94) C dX6_does_6 (by omega) (by omega) (by decide) (by show (if (97 : Int) = _ then (76 : Int) else (if (98 : Int) = _ then (65 : Int) else (if (112 : Int) = _ then (34 : Int) else (88 : Int)))) = _; omega) (by decide) ?_
  have hf := hok.2.1 (by omega)
  have hx2 := hx
  have hin : F k < S 1 := by
    rcases (show W k = 120 ∨ W k = 121 by omega) with z | z
    · rw [z, exO_x] at hx2
      exact (ite_1 hx2).1
    · rw [z, exO_y] at hx2
      exact (ite_1 hx2).1
  refine j_aload_n C dX6_does_94 rfl ?_
  refine j_get C 0 0 0 rfl rfl rfl wU_X6 (by decide) wF_X6_7 rfl dX6_does_95 ?_
  refine j_aload_n C dX6_does_98 rfl ?_
  refine j_get C 0 0 26 rfl rfl rfl wU_X6 (by decide) wF_X6_52 rfl dX6_does_99 ?_
  refine j_iload_n C dX6_does_102 rfl ?_
  refine j_iald C 8 0 rfl rfl dX6_does_103 (by decide) (by omega) (by omega) ?_
  refine j_iconst C dX6_does_104 ?_
  refine j_perm (pm_12 _ _ _ _ _ _ _ _ _ _ _ _) ?_
  refine j_callSi C (As := [.int (iI _), .int (iI _)]) (c_X6_p _ _ _ _ _ ) 2 nf_X6_p.2 wL_X6_79 wS_X6_p wIn_X6 wC_X6_p rfl rfl (by decide) dX6_does_105 (Nat.le_of_ble_eq_true rfl) ⟨Nat.le_of_ble_eq_true rfl, Nat.le_of_ble_eq_true rfl⟩ (fun x105 u105 h105 => ?_)
  refine j_perm (pr_12 _ _ _ _ _ _ _ _ _ _ _ _) ?_
  subst h105
  have L124 : ∀ (v : Int) (hv : (W k = 120 ∧ v = 1) ∨ (W k = 121 ∧ v = 0)), J K 0 0 [mO a G, [(a 1, aJ ((kC K) 0) 325 M)], [(a 7, aJ ((kC K) 0) 8 R1)], [(a 8, aJ ((kC K) 0) 9 N1)], [(a 5, aJ ((kC K) 0) 49 D1)], [(a 6, aJ ((kC K) 0) 490 B1)], [(a 9, aJ ((kC K) 0) 8 BR)], [(a 14, aJ ((kC K) 0) 50 W)], [(a 15, aJ ((kC K) 0) 50 F)], [(a 16, aJ ((kC K) 0) 50 Q)], [(a 17, aJ ((kC K) 0) 50 A)], [(a 18, aJ ((kC K) 0) 50 T)]] [some (.ref (a 0)), some (.int (iI k))] 124 [.int (iI v), .int (iI (5 + 8 * F k + 4)), .ref (a 1)] := by
    intro v hv
    refine j_iast_p1 C 0 rfl ar1_ast dX6_does_124 (by decide) (by omega) (by omega) ?_
    exact L125 _ _ _ _ _ _ _ (by refine ⟨?_, KG_rfl G⟩; rw [show 5 + 8 * F k + 4 = 9 + 8 * F k by omega]; rcases hv with ⟨z, rfl⟩ | ⟨z, rfl⟩; (rw [z, exO_x] at hx2 ⊢; rw [if_pos (ite_1 hx2)]; exact Ag_st hA (by omega) (by omega) (by omega)); (rw [z, exO_y] at hx2 ⊢; rw [if_pos (ite_1 hx2)]; exact Ag_st hA (by omega) (by omega) (by omega)))
  refine j_aload_n C dX6_does_108 rfl ?_
  refine j_get C 0 0 25 rfl rfl rfl wU_X6 (by decide) wF_X6_49 rfl dX6_does_109 ?_
  refine j_iload_n C dX6_does_112 rfl ?_
  refine j_iald C 7 0 rfl rfl dX6_does_113 (by decide) (by omega) (by omega) ?_
  refine j_bipush C dX6_does_114 (by decide) ?_
  refine j_icmp_ne (tgt := 123) C dX6_does_116 (by decide) (by omega) (by omega) (by omega) (by omega) (fun c116 => ?_) (fun c116 => ?_)
  · refine j_iconst C dX6_does_123 ?_
    exact L124 _ (by omega)
  · refine j_iconst C dX6_does_119 ?_
    refine j_goto (tgt := 124) C dX6_does_120 (by decide) ?_
    exact L124 _ (by omega)
