/-! the law's wrappers -/
def SVC (c : Int) (L : List ((Nat → Nat) × (Int → Int))) (S : Int → Int) (c2 : Int) (L2 : List ((Nat → Nat) × (Int → Int))) : Prop := c2 = (if c < 4 then c + 1 else 4) ∧ ∃ (k : Nat → Nat) (T : Int → Int), L2 = svNx c L (k, cpS T S)
theorem L_at {L : List ((Nat → Nat) × (Int → Int))} {c : Int} (h0 : 0 < c) (h1 : c ≤ (L.length : Int)) : ∃ (L1 L2 : List ((Nat → Nat) × (Int → Int))) (k : Nat → Nat) (T : Int → Int), L = L1 ++ (k, T) :: L2 ∧ c = ((L1.length : Nat) : Int) + 1 := by
  have hk : (c - 1).toNat < L.length := by omega
  refine ⟨L.take (c - 1).toNat, L.drop ((c - 1).toNat + 1), (L[(c - 1).toNat]).1, (L[(c - 1).toNat]).2, ?_, ?_⟩
  · have e : (((L[(c - 1).toNat]).1, (L[(c - 1).toNat]).2) : (Nat → Nat) × (Int → Int)) = L[(c - 1).toNat] := rfl
    rw [e, ← List.drop_eq_getElem_cons hk, List.take_append_drop]
  · rw [List.length_take]; omega
theorem L_at2 {L1 L2 : List ((Nat → Nat) × (Int → Int))} {k : Nat → Nat} {T : Int → Int} {c : Int} (h : c = ((L1.length : Nat) : Int) + 1) : (L1 ++ (k, T) :: L2)[(c - 1).toNat]? = some (k, T) := by
  rw [show (c - 1).toNat = L1.length by omega, List.getElem?_append_right (Nat.le_refl _), Nat.sub_self]
  rfl
theorem pm_4_1_2 (B0 B1 B2 B3 : va_W) : [B0, B1, B2, B3].Perm ([B1, B2] ++ [B0, B3]) := List.Perm.trans (List.perm_middle (l₁ := [B0]) (a := B1) (l₂ := [B2, B3])) (List.Perm.cons _ (List.perm_middle (l₁ := [B0]) (a := B2) (l₂ := [B3])))
theorem pr_4_1_2 (B0 B1 B2 B3 : va_W) : ([B1, B2] ++ [B0, B3]).Perm [B0, B1, B2, B3] := (pm_4_1_2 B0 B1 B2 B3).symm
theorem pm_4_1_2_3 (B0 B1 B2 B3 : va_W) : [B0, B1, B2, B3].Perm ([B1, B2, B3] ++ [B0]) := List.Perm.trans (List.perm_middle (l₁ := [B0]) (a := B1) (l₂ := [B2, B3])) (List.Perm.trans (List.Perm.cons _ (List.perm_middle (l₁ := [B0]) (a := B2) (l₂ := [B3]))) (List.Perm.cons _ (List.Perm.cons _ (List.perm_middle (l₁ := [B0]) (a := B3) (l₂ := [])))))
theorem pr_4_1_2_3 (B0 B1 B2 B3 : va_W) : ([B1, B2, B3] ++ [B0]).Perm [B0, B1, B2, B3] := (pm_4_1_2_3 B0 B1 B2 B3).symm
theorem pm_4_1_3 (B0 B1 B2 B3 : va_W) : [B0, B1, B2, B3].Perm ([B1, B3] ++ [B0, B2]) := List.Perm.trans (List.perm_middle (l₁ := [B0]) (a := B1) (l₂ := [B2, B3])) (List.Perm.cons _ (List.perm_middle (l₁ := [B0, B2]) (a := B3) (l₂ := [])))
theorem pr_4_1_3 (B0 B1 B2 B3 : va_W) : ([B1, B3] ++ [B0, B2]).Perm [B0, B1, B2, B3] := (pm_4_1_3 B0 B1 B2 B3).symm
theorem pm_9_1 (B0 B1 B2 B3 B4 B5 B6 B7 B8 : va_W) : [B0, B1, B2, B3, B4, B5, B6, B7, B8].Perm ([B1] ++ [B0, B2, B3, B4, B5, B6, B7, B8]) := List.perm_middle (l₁ := [B0]) (a := B1) (l₂ := [B2, B3, B4, B5, B6, B7, B8])
theorem pr_9_1 (B0 B1 B2 B3 B4 B5 B6 B7 B8 : va_W) : ([B1] ++ [B0, B2, B3, B4, B5, B6, B7, B8]).Perm [B0, B1, B2, B3, B4, B5, B6, B7, B8] := (pm_9_1 B0 B1 B2 B3 B4 B5 B6 B7 B8).symm
theorem pm_9_1_2_3_4_5_6_7_8 (B0 B1 B2 B3 B4 B5 B6 B7 B8 : va_W) : [B0, B1, B2, B3, B4, B5, B6, B7, B8].Perm ([B1, B2, B3, B4, B5, B6, B7, B8] ++ [B0]) := List.Perm.trans (List.perm_middle (l₁ := [B0]) (a := B1) (l₂ := [B2, B3, B4, B5, B6, B7, B8])) (List.Perm.trans (List.Perm.cons _ (List.perm_middle (l₁ := [B0]) (a := B2) (l₂ := [B3, B4, B5, B6, B7, B8]))) (List.Perm.trans (List.Perm.cons _ (List.Perm.cons _ (List.perm_middle (l₁ := [B0]) (a := B3) (l₂ := [B4, B5, B6, B7, B8])))) (List.Perm.trans (List.Perm.cons _ (List.Perm.cons _ (List.Perm.cons _ (List.perm_middle (l₁ := [B0]) (a := B4) (l₂ := [B5, B6, B7, B8]))))) (List.Perm.trans (List.Perm.cons _ (List.Perm.cons _ (List.Perm.cons _ (List.Perm.cons _ (List.perm_middle (l₁ := [B0]) (a := B5) (l₂ := [B6, B7, B8])))))) (List.Perm.trans (List.Perm.cons _ (List.Perm.cons _ (List.Perm.cons _ (List.Perm.cons _ (List.Perm.cons _ (List.perm_middle (l₁ := [B0]) (a := B6) (l₂ := [B7, B8]))))))) (List.Perm.trans (List.Perm.cons _ (List.Perm.cons _ (List.Perm.cons _ (List.Perm.cons _ (List.Perm.cons _ (List.Perm.cons _ (List.perm_middle (l₁ := [B0]) (a := B7) (l₂ := [B8])))))))) (List.Perm.cons _ (List.Perm.cons _ (List.Perm.cons _ (List.Perm.cons _ (List.Perm.cons _ (List.Perm.cons _ (List.Perm.cons _ (List.perm_middle (l₁ := [B0]) (a := B8) (l₂ := [])))))))))))))))
theorem pr_9_1_2_3_4_5_6_7_8 (B0 B1 B2 B3 B4 B5 B6 B7 B8 : va_W) : ([B1, B2, B3, B4, B5, B6, B7, B8] ++ [B0]).Perm [B0, B1, B2, B3, B4, B5, B6, B7, B8] := (pm_9_1_2_3_4_5_6_7_8 B0 B1 B2 B3 B4 B5 B6 B7 B8).symm
theorem pm_10_1_2_3_4_5_6_7_8_9 (B0 B1 B2 B3 B4 B5 B6 B7 B8 B9 : va_W) : [B0, B1, B2, B3, B4, B5, B6, B7, B8, B9].Perm ([B1, B2, B3, B4, B5, B6, B7, B8, B9] ++ [B0]) := List.Perm.trans (List.perm_middle (l₁ := [B0]) (a := B1) (l₂ := [B2, B3, B4, B5, B6, B7, B8, B9])) (List.Perm.trans (List.Perm.cons _ (List.perm_middle (l₁ := [B0]) (a := B2) (l₂ := [B3, B4, B5, B6, B7, B8, B9]))) (List.Perm.trans (List.Perm.cons _ (List.Perm.cons _ (List.perm_middle (l₁ := [B0]) (a := B3) (l₂ := [B4, B5, B6, B7, B8, B9])))) (List.Perm.trans (List.Perm.cons _ (List.Perm.cons _ (List.Perm.cons _ (List.perm_middle (l₁ := [B0]) (a := B4) (l₂ := [B5, B6, B7, B8, B9]))))) (List.Perm.trans (List.Perm.cons _ (List.Perm.cons _ (List.Perm.cons _ (List.Perm.cons _ (List.perm_middle (l₁ := [B0]) (a := B5) (l₂ := [B6, B7, B8, B9])))))) (List.Perm.trans (List.Perm.cons _ (List.Perm.cons _ (List.Perm.cons _ (List.Perm.cons _ (List.Perm.cons _ (List.perm_middle (l₁ := [B0]) (a := B6) (l₂ := [B7, B8, B9]))))))) (List.Perm.trans (List.Perm.cons _ (List.Perm.cons _ (List.Perm.cons _ (List.Perm.cons _ (List.Perm.cons _ (List.Perm.cons _ (List.perm_middle (l₁ := [B0]) (a := B7) (l₂ := [B8, B9])))))))) (List.Perm.trans (List.Perm.cons _ (List.Perm.cons _ (List.Perm.cons _ (List.Perm.cons _ (List.Perm.cons _ (List.Perm.cons _ (List.Perm.cons _ (List.perm_middle (l₁ := [B0]) (a := B8) (l₂ := [B9]))))))))) (List.Perm.cons _ (List.Perm.cons _ (List.Perm.cons _ (List.Perm.cons _ (List.Perm.cons _ (List.Perm.cons _ (List.Perm.cons _ (List.Perm.cons _ (List.perm_middle (l₁ := [B0]) (a := B9) (l₂ := [])))))))))))))))))
theorem pr_10_1_2_3_4_5_6_7_8_9 (B0 B1 B2 B3 B4 B5 B6 B7 B8 B9 : va_W) : ([B1, B2, B3, B4, B5, B6, B7, B8, B9] ++ [B0]).Perm [B0, B1, B2, B3, B4, B5, B6, B7, B8, B9] := (pm_10_1_2_3_4_5_6_7_8_9 B0 B1 B2 B3 B4 B5 B6 B7 B8 B9).symm
theorem pm_10_1_3_4_5_6_7_8_9 (B0 B1 B2 B3 B4 B5 B6 B7 B8 B9 : va_W) : [B0, B1, B2, B3, B4, B5, B6, B7, B8, B9].Perm ([B1, B3, B4, B5, B6, B7, B8, B9] ++ [B0, B2]) := List.Perm.trans (List.perm_middle (l₁ := [B0]) (a := B1) (l₂ := [B2, B3, B4, B5, B6, B7, B8, B9])) (List.Perm.trans (List.Perm.cons _ (List.perm_middle (l₁ := [B0, B2]) (a := B3) (l₂ := [B4, B5, B6, B7, B8, B9]))) (List.Perm.trans (List.Perm.cons _ (List.Perm.cons _ (List.perm_middle (l₁ := [B0, B2]) (a := B4) (l₂ := [B5, B6, B7, B8, B9])))) (List.Perm.trans (List.Perm.cons _ (List.Perm.cons _ (List.Perm.cons _ (List.perm_middle (l₁ := [B0, B2]) (a := B5) (l₂ := [B6, B7, B8, B9]))))) (List.Perm.trans (List.Perm.cons _ (List.Perm.cons _ (List.Perm.cons _ (List.Perm.cons _ (List.perm_middle (l₁ := [B0, B2]) (a := B6) (l₂ := [B7, B8, B9])))))) (List.Perm.trans (List.Perm.cons _ (List.Perm.cons _ (List.Perm.cons _ (List.Perm.cons _ (List.Perm.cons _ (List.perm_middle (l₁ := [B0, B2]) (a := B7) (l₂ := [B8, B9]))))))) (List.Perm.trans (List.Perm.cons _ (List.Perm.cons _ (List.Perm.cons _ (List.Perm.cons _ (List.Perm.cons _ (List.Perm.cons _ (List.perm_middle (l₁ := [B0, B2]) (a := B8) (l₂ := [B9])))))))) (List.Perm.cons _ (List.Perm.cons _ (List.Perm.cons _ (List.Perm.cons _ (List.Perm.cons _ (List.Perm.cons _ (List.Perm.cons _ (List.perm_middle (l₁ := [B0, B2]) (a := B9) (l₂ := [])))))))))))))))
theorem pr_10_1_3_4_5_6_7_8_9 (B0 B1 B2 B3 B4 B5 B6 B7 B8 B9 : va_W) : ([B1, B3, B4, B5, B6, B7, B8, B9] ++ [B0, B2]).Perm [B0, B1, B2, B3, B4, B5, B6, B7, B8, B9] := (pm_10_1_3_4_5_6_7_8_9 B0 B1 B2 B3 B4 B5 B6 B7 B8 B9).symm
theorem pm_10_1_9 (B0 B1 B2 B3 B4 B5 B6 B7 B8 B9 : va_W) : [B0, B1, B2, B3, B4, B5, B6, B7, B8, B9].Perm ([B1, B9] ++ [B0, B2, B3, B4, B5, B6, B7, B8]) := List.Perm.trans (List.perm_middle (l₁ := [B0]) (a := B1) (l₂ := [B2, B3, B4, B5, B6, B7, B8, B9])) (List.Perm.cons _ (List.perm_middle (l₁ := [B0, B2, B3, B4, B5, B6, B7, B8]) (a := B9) (l₂ := [])))
theorem pr_10_1_9 (B0 B1 B2 B3 B4 B5 B6 B7 B8 B9 : va_W) : ([B1, B9] ++ [B0, B2, B3, B4, B5, B6, B7, B8]).Perm [B0, B1, B2, B3, B4, B5, B6, B7, B8, B9] := (pm_10_1_9 B0 B1 B2 B3 B4 B5 B6 B7 B8 B9).symm
set_option maxHeartbeats 1600000 in
set_option maxRecDepth 100000 in
theorem c_L_begin (l : Launch) (D : va_G) (cA : Nat → ClassId) (q v : Nat) (b tb r m o d : Nat → Nat) (c : Int) (w9 : Nat) (L : List ((Nat → Nat) × (Int → Int))) (S : Int → Int) (Y : Int → Int) (p : Int) (hfl : l.stackTraces = false) (hI : Inv S) (hz : Inz S) (hc : 0 ≤ c ∧ c ≤ 4 ∧ c ≤ (L.length : Int) ∧ L.length ≤ 4) (h_p : -2147483648 ≤ p ∧ p < 2147483648) : MW (U := Int × (List ((Nat → Nat) × (Int → Int))) × ((Int → Int)) × ((Int → Int))) l yL_begin cL_begin 4 (some .int) [(0, 9, 12, 13)] (rmN 28 9 333) D cA [.ref (q), .int (iI p), .ref (w9)] [[(w9, lJ (cA 3) 1 Y)], prO q v b tb r m o c, svB cA v L, bk cA b S] (fun k9 u => ((2 ≤ p ∧ p ≤ 7) ∧ k9 = 0 ∧ (u.2.2.2) 0 = ndI (S 1) ∧ SVC c L S (u.1) (u.2.1) ∧ u.2.2.1 = rstP S p) ∨ ((¬ (2 ≤ p ∧ p ≤ 7)) ∧ k9 = 1 ∧ (u.1 = c ∧ u.2.1 = L ∧ u.2.2.1 = S))) (fun u => [[(w9, lJ (cA 3) 1 (u.2.2.2))], prO q v b tb r m o u.1, svB cA v (u.2.1), bk cA b (u.2.2.1)]) := by
  refine m_startW pn_L rfl (List.forall_mem_cons.mpr ⟨rfl, List.forall_mem_cons.mpr ⟨rfl, List.forall_mem_cons.mpr ⟨rfl, fun _ h => absurd h List.not_mem_nil⟩⟩⟩) (Nat.le_of_ble_eq_true rfl) ?_
  intro K C e1 e2 e3 XK hR
  subst e1 e2 e3
  have hN := hI.2.1
  have hQ := hI.1
  show J K 0 0 [[(w9, lJ ((kC K) 3) 1 Y)], prO q v b tb r m o c, svB (kC K) v L, bk (kC K) b S] [some (.ref (q)), some (.int (iI p)), some (.ref (w9)), none] 0 []
  refine j_aload_n C dL_begin_0 rfl ?_
  refine j_iconst C dL_begin_1 ?_
  refine j_aload_n C dL_begin_2 rfl ?_
  refine j_iload_n C dL_begin_3 rfl ?_
  rcases (by omega : (2 ≤ p ∧ p ≤ 7) ∨ (¬ (2 ≤ p ∧ p ≤ 7))) with q0 | q0
  · refine j_perm (pm_4_1_2_3 _ _ _ _) ?_
    refine j_callVi C (As := [.int (iI _)]) (c_X5_begin _ _ _ _ _ _ _ _ _ _ (d) _ _ _ _ (by first | assumption | omega) (by first | assumption | omega) (by first | assumption | omega) (by first | assumption | omega)) 1 nf_X5_begin (jb := 0) rfl rfl wL_L_7 wI_X5_begin wSe_X5_X5_begin wIn_X5 wC_X5_begin rfl rfl (by decide) dL_begin_4 (Nat.le_of_ble_eq_true rfl) ⟨Nat.le_of_ble_eq_true rfl, Nat.le_of_ble_eq_true rfl⟩ (fun x4 u4 h4 => ?_)
    refine j_perm (pr_4_1_2_3 _ _ _ _) ?_
    refine j_i2lN C dL_begin_7 ?_
    refine j_last_p0 C 0 rfl lo_ast dL_begin_8 (by decide) (by omega) (by omega) ?_
    refine j_goto (tgt := 15) C dL_begin_9 (by decide) ?_
    refine j_iconst C dL_begin_15 ?_
    refine hR ((if c < 4 then c + 1 else 4), u4, rstP S p, st Y 0 (ndI x4)) dL_begin_16 ?_ rfl (Nat.le_of_ble_eq_true rfl) (Nat.le_of_ble_eq_true rfl)
    exact Or.inl ⟨q0, rfl, (st_s Y 0 (ndI x4)).trans (congrArg ndI h4.1), ⟨rfl, h4.2⟩, rfl⟩
  · refine j_perm (pm_4_1 _ _ _ _) ?_
    refine j_throwV C XK (As := [.int (iI _)]) (c_X5_begin_xA _ _ _ _ _ _ _ _ _ _ (d) _ _ (by first | assumption | omega) (by first | assumption | omega) (by first | assumption | omega)) 1 nf_X5_begin (jb := 0) rfl rfl wL_L_7 wI_X5_begin wSe_X5_X5_begin wIn_X5 wC_X5_begin rfl rfl (by decide) dL_begin_4 (Nat.le_of_ble_eq_true rfl) ⟨Nat.le_of_ble_eq_true rfl, Nat.le_of_ble_eq_true rfl⟩ [] ⟨0, 9, 12, 13⟩ [] rfl (fun _ h => absurd h List.not_mem_nil) ex_A (by decide) (by decide) xl_A xc_A rfl (fun u4 x4 h4 => ?_)
    refine j_perm (pr_4_1 _ _ _ _) ?_
    refine j_astn_3 C dL_begin_12 rfl ?_
    refine j_iconst C dL_begin_13 ?_
    refine hR (c, L, S, Y) dL_begin_14 ?_ rfl (Nat.le_of_ble_eq_true rfl) (Nat.le_of_ble_eq_true rfl)
    exact Or.inr (⟨q0, rfl, rfl, rfl, rfl⟩)
set_option maxHeartbeats 1600000 in
set_option maxRecDepth 100000 in
theorem c_L_promise (l : Launch) (D : va_G) (cA : Nat → ClassId) (q v : Nat) (b tb r m o d : Nat → Nat) (c : Int) (w9 : Nat) (L : List ((Nat → Nat) × (Int → Int))) (S : Int → Int) (Y : Int → Int) (f t x y : Int) (hfl : l.stackTraces = false) (hI : Inv S) (hz : Inz S) (hc : 0 ≤ c ∧ c ≤ 4 ∧ c ≤ (L.length : Int) ∧ L.length ≤ 4) (h_f : -2147483648 ≤ f ∧ f < 2147483648) (h_t : -2147483648 ≤ t ∧ t < 2147483648) (h_x : -2147483648 ≤ x ∧ x < 2147483648) (h_y : -2147483648 ≤ y ∧ y < 2147483648) : MW (U := Int × (List ((Nat → Nat) × (Int → Int))) × ((Int → Int)) × ((Int → Int))) l yL_promise cL_promise 7 (some .int) [(0, 14, 17, 19), (0, 14, 21, 13), (0, 14, 25, 21)] (rmN 28 9 333) D cA [.ref (q), .int (iI f), .int (iI t), .int (iI x), .int (iI y), .ref (w9)] [[(w9, lJ (cA 3) 1 Y)], prO q v b tb r m o c, svB cA v L, bk cA b S] (fun k9 u => ((((0 ≤ f ∧ f < S 0) ∧ 0 ≤ t ∧ t < S 0) ∧ (1 ≤ x ∧ x ≤ 1000 ∧ 1 ≤ y ∧ y ≤ 9 ∧ f ≠ t) ∧ S 1 < 40) ∧ k9 = 0 ∧ (u.2.2.2) 0 = ndI (S 1) ∧ SVC c L S (u.1) (u.2.1) ∧ u.2.2.1 = addP S f t x y) ∨ ((¬ ((0 ≤ f ∧ f < S 0) ∧ 0 ≤ t ∧ t < S 0)) ∧ k9 = 1 ∧ (u.1 = c ∧ u.2.1 = L ∧ u.2.2.1 = S)) ∨ ((((0 ≤ f ∧ f < S 0) ∧ 0 ≤ t ∧ t < S 0) ∧ ¬ (1 ≤ x ∧ x ≤ 1000 ∧ 1 ≤ y ∧ y ≤ 9 ∧ f ≠ t)) ∧ k9 = 2 ∧ (u.1 = c ∧ u.2.1 = L ∧ u.2.2.1 = S)) ∨ ((((0 ≤ f ∧ f < S 0) ∧ 0 ≤ t ∧ t < S 0) ∧ (1 ≤ x ∧ x ≤ 1000 ∧ 1 ≤ y ∧ y ≤ 9 ∧ f ≠ t) ∧ S 1 = 40) ∧ k9 = 3 ∧ (u.1 = c ∧ u.2.1 = L ∧ u.2.2.1 = S))) (fun u => [[(w9, lJ (cA 3) 1 (u.2.2.2))], prO q v b tb r m o u.1, svB cA v (u.2.1), bk cA b (u.2.2.1)]) := by
  refine m_startW pn_L rfl (List.forall_mem_cons.mpr ⟨rfl, List.forall_mem_cons.mpr ⟨rfl, List.forall_mem_cons.mpr ⟨rfl, List.forall_mem_cons.mpr ⟨rfl, List.forall_mem_cons.mpr ⟨rfl, List.forall_mem_cons.mpr ⟨rfl, fun _ h => absurd h List.not_mem_nil⟩⟩⟩⟩⟩⟩) (Nat.le_of_ble_eq_true rfl) ?_
  intro K C e1 e2 e3 XK hR
  subst e1 e2 e3
  have hN := hI.2.1
  have hQ := hI.1
  show J K 0 0 [[(w9, lJ ((kC K) 3) 1 Y)], prO q v b tb r m o c, svB (kC K) v L, bk (kC K) b S] [some (.ref (q)), some (.int (iI f)), some (.int (iI t)), some (.int (iI x)), some (.int (iI y)), some (.ref (w9)), none] 0 []
  refine j_aload C dL_promise_0 rfl ?_
  refine j_iconst C dL_promise_2 ?_
  refine j_aload_n C dL_promise_3 rfl ?_
  refine j_iload_n C dL_promise_4 rfl ?_
  refine j_iload_n C dL_promise_5 rfl ?_
  refine j_iload_n C dL_promise_6 rfl ?_
  refine j_iload C dL_promise_7 rfl ?_
  rcases (by omega : (((0 ≤ f ∧ f < S 0) ∧ 0 ≤ t ∧ t < S 0) ∧ (1 ≤ x ∧ x ≤ 1000 ∧ 1 ≤ y ∧ y ≤ 9 ∧ f ≠ t) ∧ S 1 < 40) ∨ (¬ ((0 ≤ f ∧ f < S 0) ∧ 0 ≤ t ∧ t < S 0)) ∨ (((0 ≤ f ∧ f < S 0) ∧ 0 ≤ t ∧ t < S 0) ∧ ¬ (1 ≤ x ∧ x ≤ 1000 ∧ 1 ≤ y ∧ y ≤ 9 ∧ f ≠ t)) ∨ (((0 ≤ f ∧ f < S 0) ∧ 0 ≤ t ∧ t < S 0) ∧ (1 ≤ x ∧ x ≤ 1000 ∧ 1 ≤ y ∧ y ≤ 9 ∧ f ≠ t) ∧ S 1 = 40)) with q0 | q0 | q0 | q0
  · refine j_perm (pm_4_1_2_3 _ _ _ _) ?_
    refine j_callVi C (As := [.int (iI _), .int (iI _), .int (iI _), .int (iI _)]) (c_X5_promise _ _ _ _ _ _ _ _ _ _ (d) _ _ _ _ _ _ _ (by first | assumption | omega) (by first | assumption | omega) (by first | assumption | omega) (by first | assumption | omega) (by first | assumption | omega) (by first | assumption | omega) (by first | assumption | omega) (by first | assumption | omega) (by first | assumption | omega)) 4 nf_X5_promise (jb := 0) rfl rfl wL_L_15 wI_X5_promise wSe_X5_X5_promise wIn_X5 wC_X5_promise rfl rfl (by decide) dL_promise_9 (Nat.le_of_ble_eq_true rfl) ⟨Nat.le_of_ble_eq_true rfl, Nat.le_of_ble_eq_true rfl⟩ (fun x9 u9 h9 => ?_)
    refine j_perm (pr_4_1_2_3 _ _ _ _) ?_
    refine j_i2lN C dL_promise_12 ?_
    refine j_last_p0 C 0 rfl lo_ast dL_promise_13 (by decide) (by omega) (by omega) ?_
    refine j_goto (tgt := 29) C dL_promise_14 (by decide) ?_
    refine j_iconst C dL_promise_29 ?_
    refine hR ((if c < 4 then c + 1 else 4), u9, addP S f t x y, st Y 0 (ndI x9)) dL_promise_30 ?_ rfl (Nat.le_of_ble_eq_true rfl) (Nat.le_of_ble_eq_true rfl)
    exact Or.inl ⟨q0, rfl, (st_s Y 0 (ndI x9)).trans (congrArg ndI h9.1), ⟨rfl, h9.2⟩, rfl⟩
  · refine j_perm (pm_4_1_3 _ _ _ _) ?_
    refine j_throwV C XK (As := [.int (iI _), .int (iI _), .int (iI _), .int (iI _)]) (c_X5_promise_xB _ _ _ _ _ _ _ _ _ _ (d) _ _ _ _ _ _ (by first | assumption | omega) (by first | assumption | omega) (by first | assumption | omega) (by first | assumption | omega) (by first | assumption | omega)) 4 nf_X5_promise (jb := 0) rfl rfl wL_L_15 wI_X5_promise wSe_X5_X5_promise wIn_X5 wC_X5_promise rfl rfl (by decide) dL_promise_9 (Nat.le_of_ble_eq_true rfl) ⟨Nat.le_of_ble_eq_true rfl, Nat.le_of_ble_eq_true rfl⟩ [] ⟨0, 14, 17, 19⟩ [⟨0, 14, 21, 13⟩, ⟨0, 14, 25, 21⟩] rfl (fun _ h => absurd h List.not_mem_nil) ex_B (by decide) (by decide) xl_B xc_B rfl (fun u9 x9 h9 => ?_)
    refine j_perm (pr_4_1_3 _ _ _ _) ?_
    refine j_ast_6 C dL_promise_17 rfl ?_
    refine j_iconst C dL_promise_19 ?_
    refine hR (c, L, S, Y) dL_promise_20 ?_ rfl (Nat.le_of_ble_eq_true rfl) (Nat.le_of_ble_eq_true rfl)
    exact Or.inr (Or.inl ⟨q0, rfl, rfl, rfl, rfl⟩)
  · refine j_perm (pm_4_1_3 _ _ _ _) ?_
    refine j_throwV C XK (As := [.int (iI _), .int (iI _), .int (iI _), .int (iI _)]) (c_X5_promise_xA _ _ _ _ _ _ _ _ _ _ (d) _ _ _ _ _ _ (by first | assumption | omega) (by first | assumption | omega) (by first | assumption | omega) (by first | assumption | omega) (by first | assumption | omega) (by first | assumption | omega) (by first | assumption | omega)) 4 nf_X5_promise (jb := 0) rfl rfl wL_L_15 wI_X5_promise wSe_X5_X5_promise wIn_X5 wC_X5_promise rfl rfl (by decide) dL_promise_9 (Nat.le_of_ble_eq_true rfl) ⟨Nat.le_of_ble_eq_true rfl, Nat.le_of_ble_eq_true rfl⟩ [⟨0, 14, 17, 19⟩] ⟨0, 14, 21, 13⟩ [⟨0, 14, 25, 21⟩] rfl (List.forall_mem_cons.mpr ⟨⟨(by decide), eB, xl_B, ex_B, (by decide +kernel)⟩, fun _ h => absurd h List.not_mem_nil⟩) ex_A (by decide) (by decide) xl_A xc_A rfl (fun u9 x9 h9 => ?_)
    refine j_perm (pr_4_1_3 _ _ _ _) ?_
    refine j_ast_6 C dL_promise_21 rfl ?_
    refine j_iconst C dL_promise_23 ?_
    refine hR (c, L, S, Y) dL_promise_24 ?_ rfl (Nat.le_of_ble_eq_true rfl) (Nat.le_of_ble_eq_true rfl)
    exact Or.inr (Or.inr (Or.inl ⟨q0, rfl, rfl, rfl, rfl⟩))
  · refine j_perm (pm_4_1_3 _ _ _ _) ?_
    refine j_throwV C XK (As := [.int (iI _), .int (iI _), .int (iI _), .int (iI _)]) (c_X5_promise_xC _ _ _ _ _ _ _ _ _ _ (d) _ _ _ _ _ _ (by first | assumption | omega) (by first | assumption | omega) (by first | assumption | omega) (by first | assumption | omega) (by first | assumption | omega) (by first | assumption | omega) (by first | assumption | omega) (by first | assumption | omega)) 4 nf_X5_promise (jb := 0) rfl rfl wL_L_15 wI_X5_promise wSe_X5_X5_promise wIn_X5 wC_X5_promise rfl rfl (by decide) dL_promise_9 (Nat.le_of_ble_eq_true rfl) ⟨Nat.le_of_ble_eq_true rfl, Nat.le_of_ble_eq_true rfl⟩ [⟨0, 14, 17, 19⟩, ⟨0, 14, 21, 13⟩] ⟨0, 14, 25, 21⟩ [] rfl (List.forall_mem_cons.mpr ⟨⟨(by decide), eB, xl_B, ex_B, (by decide +kernel)⟩, List.forall_mem_cons.mpr ⟨⟨(by decide), eA, xl_A, ex_A, (by decide +kernel)⟩, fun _ h => absurd h List.not_mem_nil⟩⟩) ex_C (by decide) (by decide) xl_C xc_C rfl (fun u9 x9 h9 => ?_)
    refine j_perm (pr_4_1_3 _ _ _ _) ?_
    refine j_ast_6 C dL_promise_25 rfl ?_
    refine j_iconst C dL_promise_27 ?_
    refine hR (c, L, S, Y) dL_promise_28 ?_ rfl (Nat.le_of_ble_eq_true rfl) (Nat.le_of_ble_eq_true rfl)
    exact Or.inr (Or.inr (Or.inr (⟨q0, rfl, rfl, rfl, rfl⟩)))
set_option maxHeartbeats 1600000 in
set_option maxRecDepth 100000 in
theorem c_L_pay (l : Launch) (D : va_G) (cA : Nat → ClassId) (q v : Nat) (b tb r m o d : Nat → Nat) (c : Int) (w9 : Nat) (L : List ((Nat → Nat) × (Int → Int))) (S : Int → Int) (Y : Int → Int) (i w : Int) (hfl : l.stackTraces = false) (hI : Inv S) (hz : Inz S) (hc : 0 ≤ c ∧ c ≤ 4 ∧ c ≤ (L.length : Int) ∧ L.length ≤ 4) (h_i : -2147483648 ≤ i ∧ i < 2147483648) (h_w : -2147483648 ≤ w ∧ w < 2147483648) : MW (U := Int × (List ((Nat → Nat) × (Int → Int))) × ((Int → Int)) × ((Int → Int))) l yL_pay cL_pay 5 (some .int) [(0, 10, 13, 19), (0, 10, 17, 13), (0, 10, 21, 21)] (rmN 28 9 333) D cA [.ref (q), .int (iI i), .int (iI w), .ref (w9)] [[(w9, lJ (cA 3) 1 Y)], prO q v b tb r m o c, svB cA v L, bk cA b S] (fun k9 u => (((0 ≤ i ∧ i < S 1) ∧ 1 ≤ w ∧ w ≤ am S i) ∧ k9 = 0 ∧ (u.2.2.2) 0 = ndI (am (payP S i w) i) ∧ SVC c L S (u.1) (u.2.1) ∧ u.2.2.1 = payP S i w) ∨ ((¬ (0 ≤ i ∧ i < S 1)) ∧ k9 = 1 ∧ (u.1 = c ∧ u.2.1 = L ∧ u.2.2.1 = S)) ∨ (((0 ≤ i ∧ i < S 1) ∧ w < 1) ∧ k9 = 2 ∧ (u.1 = c ∧ u.2.1 = L ∧ u.2.2.1 = S)) ∨ (((0 ≤ i ∧ i < S 1) ∧ 1 ≤ w ∧ am S i < w) ∧ k9 = 3 ∧ (u.1 = c ∧ u.2.1 = L ∧ u.2.2.1 = S))) (fun u => [[(w9, lJ (cA 3) 1 (u.2.2.2))], prO q v b tb r m o u.1, svB cA v (u.2.1), bk cA b (u.2.2.1)]) := by
  refine m_startW pn_L rfl (List.forall_mem_cons.mpr ⟨rfl, List.forall_mem_cons.mpr ⟨rfl, List.forall_mem_cons.mpr ⟨rfl, List.forall_mem_cons.mpr ⟨rfl, fun _ h => absurd h List.not_mem_nil⟩⟩⟩⟩) (Nat.le_of_ble_eq_true rfl) ?_
  intro K C e1 e2 e3 XK hR
  subst e1 e2 e3
  have hN := hI.2.1
  have hQ := hI.1
  show J K 0 0 [[(w9, lJ ((kC K) 3) 1 Y)], prO q v b tb r m o c, svB (kC K) v L, bk (kC K) b S] [some (.ref (q)), some (.int (iI i)), some (.int (iI w)), some (.ref (w9)), none] 0 []
  refine j_aload_n C dL_pay_0 rfl ?_
  refine j_iconst C dL_pay_1 ?_
  refine j_aload_n C dL_pay_2 rfl ?_
  refine j_iload_n C dL_pay_3 rfl ?_
  refine j_iload_n C dL_pay_4 rfl ?_
  rcases (by omega : ((0 ≤ i ∧ i < S 1) ∧ 1 ≤ w ∧ w ≤ am S i) ∨ (¬ (0 ≤ i ∧ i < S 1)) ∨ ((0 ≤ i ∧ i < S 1) ∧ w < 1) ∨ ((0 ≤ i ∧ i < S 1) ∧ 1 ≤ w ∧ am S i < w)) with q0 | q0 | q0 | q0
  · refine j_perm (pm_4_1_2_3 _ _ _ _) ?_
    refine j_callVi C (As := [.int (iI _), .int (iI _)]) (c_X5_pay _ _ _ _ _ _ _ _ _ _ (d) _ _ _ _ _ (by first | assumption | omega) (by first | assumption | omega) (by first | assumption | omega) (by first | assumption | omega) (by first | assumption | omega)) 2 nf_X5_pay (jb := 0) rfl rfl wL_L_23 wI_X5_pay wSe_X5_X5_pay wIn_X5 wC_X5_pay rfl rfl (by decide) dL_pay_5 (Nat.le_of_ble_eq_true rfl) ⟨Nat.le_of_ble_eq_true rfl, Nat.le_of_ble_eq_true rfl⟩ (fun x5 u5 h5 => ?_)
    refine j_perm (pr_4_1_2_3 _ _ _ _) ?_
    refine j_i2lN C dL_pay_8 ?_
    refine j_last_p0 C 0 rfl lo_ast dL_pay_9 (by decide) (by omega) (by omega) ?_
    refine j_goto (tgt := 25) C dL_pay_10 (by decide) ?_
    refine j_iconst C dL_pay_25 ?_
    refine hR ((if c < 4 then c + 1 else 4), u5, payP S i w, st Y 0 (ndI x5)) dL_pay_26 ?_ rfl (Nat.le_of_ble_eq_true rfl) (Nat.le_of_ble_eq_true rfl)
    exact Or.inl ⟨q0, rfl, (st_s Y 0 (ndI x5)).trans (congrArg ndI h5.1), ⟨rfl, h5.2⟩, rfl⟩
  · refine j_perm (pm_4_1_3 _ _ _ _) ?_
    refine j_throwV C XK (As := [.int (iI _), .int (iI _)]) (c_X5_pay_xB _ _ _ _ _ _ _ _ _ _ (d) _ _ _ _ (by first | assumption | omega) (by first | assumption | omega) (by first | assumption | omega) (by first | assumption | omega)) 2 nf_X5_pay (jb := 0) rfl rfl wL_L_23 wI_X5_pay wSe_X5_X5_pay wIn_X5 wC_X5_pay rfl rfl (by decide) dL_pay_5 (Nat.le_of_ble_eq_true rfl) ⟨Nat.le_of_ble_eq_true rfl, Nat.le_of_ble_eq_true rfl⟩ [] ⟨0, 10, 13, 19⟩ [⟨0, 10, 17, 13⟩, ⟨0, 10, 21, 21⟩] rfl (fun _ h => absurd h List.not_mem_nil) ex_B (by decide) (by decide) xl_B xc_B rfl (fun u5 x5 h5 => ?_)
    refine j_perm (pr_4_1_3 _ _ _ _) ?_
    refine j_ast_4 C dL_pay_13 rfl ?_
    refine j_iconst C dL_pay_15 ?_
    refine hR (c, L, S, Y) dL_pay_16 ?_ rfl (Nat.le_of_ble_eq_true rfl) (Nat.le_of_ble_eq_true rfl)
    exact Or.inr (Or.inl ⟨q0, rfl, rfl, rfl, rfl⟩)
  · refine j_perm (pm_4_1_3 _ _ _ _) ?_
    refine j_throwV C XK (As := [.int (iI _), .int (iI _)]) (c_X5_pay_xA _ _ _ _ _ _ _ _ _ _ (d) _ _ _ _ (by first | assumption | omega) (by first | assumption | omega) (by first | assumption | omega) (by first | assumption | omega) (by first | assumption | omega)) 2 nf_X5_pay (jb := 0) rfl rfl wL_L_23 wI_X5_pay wSe_X5_X5_pay wIn_X5 wC_X5_pay rfl rfl (by decide) dL_pay_5 (Nat.le_of_ble_eq_true rfl) ⟨Nat.le_of_ble_eq_true rfl, Nat.le_of_ble_eq_true rfl⟩ [⟨0, 10, 13, 19⟩] ⟨0, 10, 17, 13⟩ [⟨0, 10, 21, 21⟩] rfl (List.forall_mem_cons.mpr ⟨⟨(by decide), eB, xl_B, ex_B, (by decide +kernel)⟩, fun _ h => absurd h List.not_mem_nil⟩) ex_A (by decide) (by decide) xl_A xc_A rfl (fun u5 x5 h5 => ?_)
    refine j_perm (pr_4_1_3 _ _ _ _) ?_
    refine j_ast_4 C dL_pay_17 rfl ?_
    refine j_iconst C dL_pay_19 ?_
    refine hR (c, L, S, Y) dL_pay_20 ?_ rfl (Nat.le_of_ble_eq_true rfl) (Nat.le_of_ble_eq_true rfl)
    exact Or.inr (Or.inr (Or.inl ⟨q0, rfl, rfl, rfl, rfl⟩))
  · refine j_perm (pm_4_1_3 _ _ _ _) ?_
    refine j_throwV C XK (As := [.int (iI _), .int (iI _)]) (c_X5_pay_xC _ _ _ _ _ _ _ _ _ _ (d) _ _ _ _ (by first | assumption | omega) (by first | assumption | omega) (by first | assumption | omega) (by first | assumption | omega) (by first | assumption | omega) (by first | assumption | omega)) 2 nf_X5_pay (jb := 0) rfl rfl wL_L_23 wI_X5_pay wSe_X5_X5_pay wIn_X5 wC_X5_pay rfl rfl (by decide) dL_pay_5 (Nat.le_of_ble_eq_true rfl) ⟨Nat.le_of_ble_eq_true rfl, Nat.le_of_ble_eq_true rfl⟩ [⟨0, 10, 13, 19⟩, ⟨0, 10, 17, 13⟩] ⟨0, 10, 21, 21⟩ [] rfl (List.forall_mem_cons.mpr ⟨⟨(by decide), eB, xl_B, ex_B, (by decide +kernel)⟩, List.forall_mem_cons.mpr ⟨⟨(by decide), eA, xl_A, ex_A, (by decide +kernel)⟩, fun _ h => absurd h List.not_mem_nil⟩⟩) ex_C (by decide) (by decide) xl_C xc_C rfl (fun u5 x5 h5 => ?_)
    refine j_perm (pr_4_1_3 _ _ _ _) ?_
    refine j_ast_4 C dL_pay_21 rfl ?_
    refine j_iconst C dL_pay_23 ?_
    refine hR (c, L, S, Y) dL_pay_24 ?_ rfl (Nat.le_of_ble_eq_true rfl) (Nat.le_of_ble_eq_true rfl)
    exact Or.inr (Or.inr (Or.inr (⟨q0, rfl, rfl, rfl, rfl⟩)))
set_option maxHeartbeats 1600000 in
set_option maxRecDepth 100000 in
theorem c_L_dispute (l : Launch) (D : va_G) (cA : Nat → ClassId) (q v : Nat) (b tb r m o d : Nat → Nat) (c : Int) (w9 : Nat) (L : List ((Nat → Nat) × (Int → Int))) (z : Int) (X F Nx f0 : Int → Int) (S : Int → Int) (Y : Int → Int) (i : Int) (hfl : l.stackTraces = false) (hI : Inv S) (hz : Inz S) (hc : 0 ≤ c ∧ c ≤ 4 ∧ c ≤ (L.length : Int) ∧ L.length ≤ 4) (h_i : -2147483648 ≤ i ∧ i < 2147483648) : MW (U := Int × (List ((Nat → Nat) × (Int → Int))) × ((Int → Int)) × ((((Int → Int) × (Int → Int) × (Int → Int) × (Int → Int)) × Int)) × ((Int → Int))) l yL_dispute cL_dispute 4 (some .int) [(0, 9, 12, 19), (0, 9, 15, 21)] (rmN 28 9 333) D cA [.ref (q), .int (iI i), .ref (w9)] [[(w9, lJ (cA 3) 1 Y)], prO q v b tb r m o c, svB cA v L, rgO r (d 0) z, dbO d, [(d 1, aJ (cA 0) 49 X)], [(d 2, aJ (cA 0) 49 F)], [(d 3, aJ (cA 0) 40 Nx)], [(r 1, aJ (cA 0) 2365 f0)], bk cA b S] (fun k9 u => (((0 ≤ i ∧ i < S 1) ∧ 0 < am S i ∧ di S i = 0) ∧ k9 = 0 ∧ (u.2.2.2.2) 0 = ndI (((RS S).length : Int) - ((RS (st S (9 + 8 * i) 1)).length : Int)) ∧ SVC c L S (u.1) (u.2.1) ∧ u.2.2.1 = st S (9 + 8 * i) 1) ∨ ((¬ (0 ≤ i ∧ i < S 1)) ∧ k9 = 1 ∧ (u.1 = c ∧ u.2.1 = L ∧ u.2.2.1 = S)) ∨ (((0 ≤ i ∧ i < S 1) ∧ ¬ (0 < am S i ∧ di S i = 0)) ∧ k9 = 2 ∧ (u.1 = c ∧ u.2.1 = L ∧ u.2.2.1 = S))) (fun u => [[(w9, lJ (cA 3) 1 (u.2.2.2.2))], prO q v b tb r m o u.1, svB cA v (u.2.1), rgO r (d 0) (u.2.2.2.1).2, dbO d, [(d 1, aJ (cA 0) 49 (u.2.2.2.1).1.1)], [(d 2, aJ (cA 0) 49 (u.2.2.2.1).1.2.1)], [(d 3, aJ (cA 0) 40 (u.2.2.2.1).1.2.2.1)], [(r 1, aJ (cA 0) 2365 (u.2.2.2.1).1.2.2.2)], bk cA b (u.2.2.1)]) := by
  refine m_startW pn_L rfl (List.forall_mem_cons.mpr ⟨rfl, List.forall_mem_cons.mpr ⟨rfl, List.forall_mem_cons.mpr ⟨rfl, fun _ h => absurd h List.not_mem_nil⟩⟩⟩) (Nat.le_of_ble_eq_true rfl) ?_
  intro K C e1 e2 e3 XK hR
  subst e1 e2 e3
  have hN := hI.2.1
  have hQ := hI.1
  show J K 0 0 [[(w9, lJ ((kC K) 3) 1 Y)], prO q v b tb r m o c, svB (kC K) v L, rgO r (d 0) z, dbO d, [(d 1, aJ ((kC K) 0) 49 X)], [(d 2, aJ ((kC K) 0) 49 F)], [(d 3, aJ ((kC K) 0) 40 Nx)], [(r 1, aJ ((kC K) 0) 2365 f0)], bk (kC K) b S] [some (.ref (q)), some (.int (iI i)), some (.ref (w9)), none] 0 []
  refine j_aload_n C dL_dispute_0 rfl ?_
  refine j_iconst C dL_dispute_1 ?_
  refine j_aload_n C dL_dispute_2 rfl ?_
  refine j_iload_n C dL_dispute_3 rfl ?_
  rcases (by omega : ((0 ≤ i ∧ i < S 1) ∧ 0 < am S i ∧ di S i = 0) ∨ (¬ (0 ≤ i ∧ i < S 1)) ∨ ((0 ≤ i ∧ i < S 1) ∧ ¬ (0 < am S i ∧ di S i = 0))) with q0 | q0 | q0
  · refine j_perm (pm_10_1_2_3_4_5_6_7_8_9 _ _ _ _ _ _ _ _ _ _) ?_
    refine j_callVi C (As := [.int (iI _)]) (c_X5_dispute _ _ _ _ _ _ _ _ _ _ (d) _ _ _ _ _ _ _ _ _ (by first | assumption | omega) (by first | assumption | omega) (by first | assumption | omega) (by first | assumption | omega) (by first | assumption | omega)) 1 nf_X5_dispute (jb := 0) rfl rfl wL_L_27 wI_X5_dispute wSe_X5_X5_dispute wIn_X5 wC_X5_dispute rfl rfl (by decide) dL_dispute_4 (Nat.le_of_ble_eq_true rfl) ⟨Nat.le_of_ble_eq_true rfl, Nat.le_of_ble_eq_true rfl⟩ (fun x4 u4 h4 => ?_)
    refine j_perm (pr_10_1_2_3_4_5_6_7_8_9 _ _ _ _ _ _ _ _ _ _) ?_
    refine j_i2lN C dL_dispute_7 ?_
    refine j_last_p0 C 0 rfl lo_ast dL_dispute_8 (by decide) (by omega) (by omega) ?_
    refine j_goto (tgt := 18) C dL_dispute_9 (by decide) ?_
    refine j_iconst C dL_dispute_18 ?_
    refine hR ((if c < 4 then c + 1 else 4), u4.2, st S (9 + 8 * i) 1, (u4.1, ((RS (st S (9 + 8 * i) 1)).length : Int)), st Y 0 (ndI x4)) dL_dispute_19 ?_ rfl (Nat.le_of_ble_eq_true rfl) (Nat.le_of_ble_eq_true rfl)
    exact Or.inl ⟨q0, rfl, (st_s Y 0 (ndI x4)).trans (congrArg ndI h4.1), ⟨rfl, h4.2⟩, rfl⟩
  · refine j_perm (pm_10_1_9 _ _ _ _ _ _ _ _ _ _) ?_
    refine j_throwV C XK (As := [.int (iI _)]) (c_X5_dispute_xB _ _ _ _ _ _ _ _ _ _ (d) _ _ _ (by first | assumption | omega) (by first | assumption | omega) (by first | assumption | omega) (by first | assumption | omega)) 1 nf_X5_dispute (jb := 0) rfl rfl wL_L_27 wI_X5_dispute wSe_X5_X5_dispute wIn_X5 wC_X5_dispute rfl rfl (by decide) dL_dispute_4 (Nat.le_of_ble_eq_true rfl) ⟨Nat.le_of_ble_eq_true rfl, Nat.le_of_ble_eq_true rfl⟩ [] ⟨0, 9, 12, 19⟩ [⟨0, 9, 15, 21⟩] rfl (fun _ h => absurd h List.not_mem_nil) ex_B (by decide) (by decide) xl_B xc_B rfl (fun u4 x4 h4 => ?_)
    refine j_perm (pr_10_1_9 _ _ _ _ _ _ _ _ _ _) ?_
    refine j_astn_3 C dL_dispute_12 rfl ?_
    refine j_iconst C dL_dispute_13 ?_
    refine hR (c, L, S, ((X, F, Nx, f0), z), Y) dL_dispute_14 ?_ rfl (Nat.le_of_ble_eq_true rfl) (Nat.le_of_ble_eq_true rfl)
    exact Or.inr (Or.inl ⟨q0, rfl, rfl, rfl, rfl⟩)
  · refine j_perm (pm_10_1_9 _ _ _ _ _ _ _ _ _ _) ?_
    refine j_throwV C XK (As := [.int (iI _)]) (c_X5_dispute_xC _ _ _ _ _ _ _ _ _ _ (d) _ _ _ (by first | assumption | omega) (by first | assumption | omega) (by first | assumption | omega) (by first | assumption | omega)) 1 nf_X5_dispute (jb := 0) rfl rfl wL_L_27 wI_X5_dispute wSe_X5_X5_dispute wIn_X5 wC_X5_dispute rfl rfl (by decide) dL_dispute_4 (Nat.le_of_ble_eq_true rfl) ⟨Nat.le_of_ble_eq_true rfl, Nat.le_of_ble_eq_true rfl⟩ [⟨0, 9, 12, 19⟩] ⟨0, 9, 15, 21⟩ [] rfl (List.forall_mem_cons.mpr ⟨⟨(by decide), eB, xl_B, ex_B, (by decide +kernel)⟩, fun _ h => absurd h List.not_mem_nil⟩) ex_C (by decide) (by decide) xl_C xc_C rfl (fun u4 x4 h4 => ?_)
    refine j_perm (pr_10_1_9 _ _ _ _ _ _ _ _ _ _) ?_
    refine j_astn_3 C dL_dispute_15 rfl ?_
    refine j_iconst C dL_dispute_16 ?_
    refine hR (c, L, S, ((X, F, Nx, f0), z), Y) dL_dispute_17 ?_ rfl (Nat.le_of_ble_eq_true rfl) (Nat.le_of_ble_eq_true rfl)
    exact Or.inr (Or.inr (⟨q0, rfl, rfl, rfl, rfl⟩))
set_option maxHeartbeats 1600000 in
set_option maxRecDepth 100000 in
theorem c_L_settle (l : Launch) (D : va_G) (cA : Nat → ClassId) (q v : Nat) (b tb r m o d : Nat → Nat) (c : Int) (w9 : Nat) (L : List ((Nat → Nat) × (Int → Int))) (z : Int) (X F Nx f0 : Int → Int) (S : Int → Int) (Y : Int → Int) (i : Int) (hfl : l.stackTraces = false) (hI : Inv S) (hz : Inz S) (hc : 0 ≤ c ∧ c ≤ 4 ∧ c ≤ (L.length : Int) ∧ L.length ≤ 4) (h_i : -2147483648 ≤ i ∧ i < 2147483648) : MW (U := Int × (List ((Nat → Nat) × (Int → Int))) × ((Int → Int)) × ((((Int → Int) × (Int → Int) × (Int → Int) × (Int → Int)) × Int)) × ((Int → Int))) l yL_settle cL_settle 4 (some .int) [(0, 9, 12, 19), (0, 9, 15, 21)] (rmN 28 9 333) D cA [.ref (q), .int (iI i), .ref (w9)] [[(w9, lJ (cA 3) 1 Y)], prO q v b tb r m o c, svB cA v L, rgO r (d 0) z, dbO d, [(d 1, aJ (cA 0) 49 X)], [(d 2, aJ (cA 0) 49 F)], [(d 3, aJ (cA 0) 40 Nx)], [(r 1, aJ (cA 0) 2365 f0)], bk cA b S] (fun k9 u => (((0 ≤ i ∧ i < S 1) ∧ di S i = 1) ∧ k9 = 0 ∧ (u.2.2.2.2) 0 = ndI (((RS (st S (9 + 8 * i) 0)).length : Int)) ∧ SVC c L S (u.1) (u.2.1) ∧ u.2.2.1 = st S (9 + 8 * i) 0) ∨ ((¬ (0 ≤ i ∧ i < S 1)) ∧ k9 = 1 ∧ (u.1 = c ∧ u.2.1 = L ∧ u.2.2.1 = S)) ∨ (((0 ≤ i ∧ i < S 1) ∧ di S i = 0) ∧ k9 = 2 ∧ (u.1 = c ∧ u.2.1 = L ∧ u.2.2.1 = S))) (fun u => [[(w9, lJ (cA 3) 1 (u.2.2.2.2))], prO q v b tb r m o u.1, svB cA v (u.2.1), rgO r (d 0) (u.2.2.2.1).2, dbO d, [(d 1, aJ (cA 0) 49 (u.2.2.2.1).1.1)], [(d 2, aJ (cA 0) 49 (u.2.2.2.1).1.2.1)], [(d 3, aJ (cA 0) 40 (u.2.2.2.1).1.2.2.1)], [(r 1, aJ (cA 0) 2365 (u.2.2.2.1).1.2.2.2)], bk cA b (u.2.2.1)]) := by
  refine m_startW pn_L rfl (List.forall_mem_cons.mpr ⟨rfl, List.forall_mem_cons.mpr ⟨rfl, List.forall_mem_cons.mpr ⟨rfl, fun _ h => absurd h List.not_mem_nil⟩⟩⟩) (Nat.le_of_ble_eq_true rfl) ?_
  intro K C e1 e2 e3 XK hR
  subst e1 e2 e3
  have hN := hI.2.1
  have hQ := hI.1
  show J K 0 0 [[(w9, lJ ((kC K) 3) 1 Y)], prO q v b tb r m o c, svB (kC K) v L, rgO r (d 0) z, dbO d, [(d 1, aJ ((kC K) 0) 49 X)], [(d 2, aJ ((kC K) 0) 49 F)], [(d 3, aJ ((kC K) 0) 40 Nx)], [(r 1, aJ ((kC K) 0) 2365 f0)], bk (kC K) b S] [some (.ref (q)), some (.int (iI i)), some (.ref (w9)), none] 0 []
  refine j_aload_n C dL_settle_0 rfl ?_
  refine j_iconst C dL_settle_1 ?_
  refine j_aload_n C dL_settle_2 rfl ?_
  refine j_iload_n C dL_settle_3 rfl ?_
  rcases (by have hd : 0 ≤ i → i < S 1 → di S i = 0 ∨ di S i = 1 := fun a b => (hI.2.2 i a b).2.2.2.2.2; omega : ((0 ≤ i ∧ i < S 1) ∧ di S i = 1) ∨ (¬ (0 ≤ i ∧ i < S 1)) ∨ ((0 ≤ i ∧ i < S 1) ∧ di S i = 0)) with q0 | q0 | q0
  · refine j_perm (pm_10_1_2_3_4_5_6_7_8_9 _ _ _ _ _ _ _ _ _ _) ?_
    refine j_callVi C (As := [.int (iI _)]) (c_X5_settle _ _ _ _ _ _ _ _ _ _ (d) _ _ _ _ _ _ _ _ _ (by first | assumption | omega) (by first | assumption | omega) (by first | assumption | omega) (by first | assumption | omega) (by first | assumption | omega)) 1 nf_X5_settle (jb := 0) rfl rfl wL_L_30 wI_X5_settle wSe_X5_X5_settle wIn_X5 wC_X5_settle rfl rfl (by decide) dL_settle_4 (Nat.le_of_ble_eq_true rfl) ⟨Nat.le_of_ble_eq_true rfl, Nat.le_of_ble_eq_true rfl⟩ (fun x4 u4 h4 => ?_)
    refine j_perm (pr_10_1_2_3_4_5_6_7_8_9 _ _ _ _ _ _ _ _ _ _) ?_
    refine j_i2lN C dL_settle_7 ?_
    refine j_last_p0 C 0 rfl lo_ast dL_settle_8 (by decide) (by omega) (by omega) ?_
    refine j_goto (tgt := 18) C dL_settle_9 (by decide) ?_
    refine j_iconst C dL_settle_18 ?_
    refine hR ((if c < 4 then c + 1 else 4), u4.2, st S (9 + 8 * i) 0, (u4.1, ((RS (st S (9 + 8 * i) 0)).length : Int)), st Y 0 (ndI x4)) dL_settle_19 ?_ rfl (Nat.le_of_ble_eq_true rfl) (Nat.le_of_ble_eq_true rfl)
    exact Or.inl ⟨q0, rfl, (st_s Y 0 (ndI x4)).trans (congrArg ndI h4.1), ⟨rfl, h4.2⟩, rfl⟩
  · refine j_perm (pm_10_1_9 _ _ _ _ _ _ _ _ _ _) ?_
    refine j_throwV C XK (As := [.int (iI _)]) (c_X5_settle_xB _ _ _ _ _ _ _ _ _ _ (d) _ _ _ (by first | assumption | omega) (by first | assumption | omega) (by first | assumption | omega) (by first | assumption | omega)) 1 nf_X5_settle (jb := 0) rfl rfl wL_L_30 wI_X5_settle wSe_X5_X5_settle wIn_X5 wC_X5_settle rfl rfl (by decide) dL_settle_4 (Nat.le_of_ble_eq_true rfl) ⟨Nat.le_of_ble_eq_true rfl, Nat.le_of_ble_eq_true rfl⟩ [] ⟨0, 9, 12, 19⟩ [⟨0, 9, 15, 21⟩] rfl (fun _ h => absurd h List.not_mem_nil) ex_B (by decide) (by decide) xl_B xc_B rfl (fun u4 x4 h4 => ?_)
    refine j_perm (pr_10_1_9 _ _ _ _ _ _ _ _ _ _) ?_
    refine j_astn_3 C dL_settle_12 rfl ?_
    refine j_iconst C dL_settle_13 ?_
    refine hR (c, L, S, ((X, F, Nx, f0), z), Y) dL_settle_14 ?_ rfl (Nat.le_of_ble_eq_true rfl) (Nat.le_of_ble_eq_true rfl)
    exact Or.inr (Or.inl ⟨q0, rfl, rfl, rfl, rfl⟩)
  · refine j_perm (pm_10_1_9 _ _ _ _ _ _ _ _ _ _) ?_
    refine j_throwV C XK (As := [.int (iI _)]) (c_X5_settle_xC _ _ _ _ _ _ _ _ _ _ (d) _ _ _ (by first | assumption | omega) (by first | assumption | omega) (by first | assumption | omega) (by first | assumption | omega)) 1 nf_X5_settle (jb := 0) rfl rfl wL_L_30 wI_X5_settle wSe_X5_X5_settle wIn_X5 wC_X5_settle rfl rfl (by decide) dL_settle_4 (Nat.le_of_ble_eq_true rfl) ⟨Nat.le_of_ble_eq_true rfl, Nat.le_of_ble_eq_true rfl⟩ [⟨0, 9, 12, 19⟩] ⟨0, 9, 15, 21⟩ [] rfl (List.forall_mem_cons.mpr ⟨⟨(by decide), eB, xl_B, ex_B, (by decide +kernel)⟩, fun _ h => absurd h List.not_mem_nil⟩) ex_C (by decide) (by decide) xl_C xc_C rfl (fun u4 x4 h4 => ?_)
    refine j_perm (pr_10_1_9 _ _ _ _ _ _ _ _ _ _) ?_
    refine j_astn_3 C dL_settle_15 rfl ?_
    refine j_iconst C dL_settle_16 ?_
    refine hR (c, L, S, ((X, F, Nx, f0), z), Y) dL_settle_17 ?_ rfl (Nat.le_of_ble_eq_true rfl) (Nat.le_of_ble_eq_true rfl)
    exact Or.inr (Or.inr (⟨q0, rfl, rfl, rfl, rfl⟩))
set_option maxHeartbeats 1600000 in
set_option maxRecDepth 100000 in
theorem c_L_discharge (l : Launch) (D : va_G) (cA : Nat → ClassId) (q v : Nat) (b tb r m o d : Nat → Nat) (c : Int) (w9 : Nat) (L : List ((Nat → Nat) × (Int → Int))) (z : Int) (X F Nx f0 : Int → Int) (S : Int → Int) (Y : Int → Int) (j w : Int) (hfl : l.stackTraces = false) (hI : Inv S) (hz : Inz S) (hc : 0 ≤ c ∧ c ≤ 4 ∧ c ≤ (L.length : Int) ∧ L.length ≤ 4) (h_j : -2147483648 ≤ j ∧ j < 2147483648) (h_w : -2147483648 ≤ w ∧ w < 2147483648) : MW (U := Int × (List ((Nat → Nat) × (Int → Int))) × ((Int → Int)) × ((((Int → Int) × (Int → Int) × (Int → Int) × (Int → Int)) × Int)) × ((Int → Int))) l yL_discharge cL_discharge 5 (some .int) [(0, 10, 13, 19), (0, 10, 17, 13), (0, 10, 21, 21)] (rmN 28 9 333) D cA [.ref (q), .int (iI j), .int (iI w), .ref (w9)] [[(w9, lJ (cA 3) 1 Y)], prO q v b tb r m o c, svB cA v L, rgO r (d 0) z, dbO d, [(d 1, aJ (cA 0) 49 X)], [(d 2, aJ (cA 0) 49 F)], [(d 3, aJ (cA 0) 40 Nx)], [(r 1, aJ (cA 0) 2365 f0)], bk cA b S] (fun k9 u => (((0 ≤ j ∧ j < ((RS S).length : Int)) ∧ 1 ≤ w ∧ w ≤ room S ((RS S).getD j.toNat [])) ∧ k9 = 0 ∧ (u.2.2.2.2) 0 = ndI (savP S ((RS S).getD j.toNat []) w) ∧ SVC c L S (u.1) (u.2.1) ∧ u.2.2.1 = disR S ((RS S).getD j.toNat []) w) ∨ ((¬ (0 ≤ j ∧ j < ((RS S).length : Int))) ∧ k9 = 1 ∧ (u.1 = c ∧ u.2.1 = L ∧ u.2.2.1 = S)) ∨ (((0 ≤ j ∧ j < ((RS S).length : Int)) ∧ w < 1) ∧ k9 = 2 ∧ (u.1 = c ∧ u.2.1 = L ∧ u.2.2.1 = S)) ∨ (((0 ≤ j ∧ j < ((RS S).length : Int)) ∧ 1 ≤ w ∧ room S ((RS S).getD j.toNat []) < w) ∧ k9 = 3 ∧ (u.1 = c ∧ u.2.1 = L ∧ u.2.2.1 = S))) (fun u => [[(w9, lJ (cA 3) 1 (u.2.2.2.2))], prO q v b tb r m o u.1, svB cA v (u.2.1), rgO r (d 0) (u.2.2.2.1).2, dbO d, [(d 1, aJ (cA 0) 49 (u.2.2.2.1).1.1)], [(d 2, aJ (cA 0) 49 (u.2.2.2.1).1.2.1)], [(d 3, aJ (cA 0) 40 (u.2.2.2.1).1.2.2.1)], [(r 1, aJ (cA 0) 2365 (u.2.2.2.1).1.2.2.2)], bk cA b (u.2.2.1)]) := by
  refine m_startW pn_L rfl (List.forall_mem_cons.mpr ⟨rfl, List.forall_mem_cons.mpr ⟨rfl, List.forall_mem_cons.mpr ⟨rfl, List.forall_mem_cons.mpr ⟨rfl, fun _ h => absurd h List.not_mem_nil⟩⟩⟩⟩) (Nat.le_of_ble_eq_true rfl) ?_
  intro K C e1 e2 e3 XK hR
  subst e1 e2 e3
  have hN := hI.2.1
  have hQ := hI.1
  show J K 0 0 [[(w9, lJ ((kC K) 3) 1 Y)], prO q v b tb r m o c, svB (kC K) v L, rgO r (d 0) z, dbO d, [(d 1, aJ ((kC K) 0) 49 X)], [(d 2, aJ ((kC K) 0) 49 F)], [(d 3, aJ ((kC K) 0) 40 Nx)], [(r 1, aJ ((kC K) 0) 2365 f0)], bk (kC K) b S] [some (.ref (q)), some (.int (iI j)), some (.int (iI w)), some (.ref (w9)), none] 0 []
  refine j_aload_n C dL_discharge_0 rfl ?_
  refine j_iconst C dL_discharge_1 ?_
  refine j_aload_n C dL_discharge_2 rfl ?_
  refine j_iload_n C dL_discharge_3 rfl ?_
  refine j_iload_n C dL_discharge_4 rfl ?_
  rcases (by omega : ((0 ≤ j ∧ j < ((RS S).length : Int)) ∧ 1 ≤ w ∧ w ≤ room S ((RS S).getD j.toNat [])) ∨ (¬ (0 ≤ j ∧ j < ((RS S).length : Int))) ∨ ((0 ≤ j ∧ j < ((RS S).length : Int)) ∧ w < 1) ∨ ((0 ≤ j ∧ j < ((RS S).length : Int)) ∧ 1 ≤ w ∧ room S ((RS S).getD j.toNat []) < w)) with q0 | q0 | q0 | q0
  · refine j_perm (pm_10_1_2_3_4_5_6_7_8_9 _ _ _ _ _ _ _ _ _ _) ?_
    refine j_callVi C (As := [.int (iI _), .int (iI _)]) (c_X5_discharge _ _ _ _ _ _ _ _ _ _ (d) _ _ _ _ _ _ _ _ _ _ (by first | assumption | omega) (by first | assumption | omega) (by first | assumption | omega) (by first | assumption | omega) (by first | assumption | omega)) 2 nf_X5_discharge (jb := 0) rfl rfl wL_L_33 wI_X5_discharge wSe_X5_X5_discharge wIn_X5 wC_X5_discharge rfl rfl (by decide) dL_discharge_5 (Nat.le_of_ble_eq_true rfl) ⟨Nat.le_of_ble_eq_true rfl, Nat.le_of_ble_eq_true rfl⟩ (fun x5 u5 h5 => ?_)
    refine j_perm (pr_10_1_2_3_4_5_6_7_8_9 _ _ _ _ _ _ _ _ _ _) ?_
    refine j_i2lN C dL_discharge_8 ?_
    refine j_last_p0 C 0 rfl lo_ast dL_discharge_9 (by decide) (by omega) (by omega) ?_
    refine j_goto (tgt := 25) C dL_discharge_10 (by decide) ?_
    refine j_iconst C dL_discharge_25 ?_
    refine hR ((if c < 4 then c + 1 else 4), u5.2, disR S ((RS S).getD j.toNat []) w, (u5.1, ((RS S).length : Int)), st Y 0 (ndI x5)) dL_discharge_26 ?_ rfl (Nat.le_of_ble_eq_true rfl) (Nat.le_of_ble_eq_true rfl)
    exact Or.inl ⟨q0, rfl, (st_s Y 0 (ndI x5)).trans (congrArg ndI h5.1), ⟨rfl, h5.2⟩, rfl⟩
  · refine j_perm (pm_10_1_3_4_5_6_7_8_9 _ _ _ _ _ _ _ _ _ _) ?_
    refine j_throwV C XK (As := [.int (iI _), .int (iI _)]) (c_X5_discharge_xB _ _ _ _ _ _ _ _ _ _ (d) _ _ _ _ _ _ _ _ _ (by first | assumption | omega) (by first | assumption | omega) (by first | assumption | omega) (by first | assumption | omega)) 2 nf_X5_discharge (jb := 0) rfl rfl wL_L_33 wI_X5_discharge wSe_X5_X5_discharge wIn_X5 wC_X5_discharge rfl rfl (by decide) dL_discharge_5 (Nat.le_of_ble_eq_true rfl) ⟨Nat.le_of_ble_eq_true rfl, Nat.le_of_ble_eq_true rfl⟩ [] ⟨0, 10, 13, 19⟩ [⟨0, 10, 17, 13⟩, ⟨0, 10, 21, 21⟩] rfl (fun _ h => absurd h List.not_mem_nil) ex_B (by decide) (by decide) xl_B xc_B rfl (fun u5 x5 h5 => ?_)
    refine j_perm (pr_10_1_3_4_5_6_7_8_9 _ _ _ _ _ _ _ _ _ _) ?_
    refine j_ast_4 C dL_discharge_13 rfl ?_
    refine j_iconst C dL_discharge_15 ?_
    refine hR (c, L, S, u5, Y) dL_discharge_16 ?_ rfl (Nat.le_of_ble_eq_true rfl) (Nat.le_of_ble_eq_true rfl)
    exact Or.inr (Or.inl ⟨q0, rfl, rfl, rfl, rfl⟩)
  · refine j_perm (pm_10_1_3_4_5_6_7_8_9 _ _ _ _ _ _ _ _ _ _) ?_
    refine j_throwV C XK (As := [.int (iI _), .int (iI _)]) (c_X5_discharge_xA _ _ _ _ _ _ _ _ _ _ (d) _ _ _ _ _ _ _ _ _ (by first | assumption | omega) (by first | assumption | omega) (by first | assumption | omega) (by first | assumption | omega) (by first | assumption | omega)) 2 nf_X5_discharge (jb := 0) rfl rfl wL_L_33 wI_X5_discharge wSe_X5_X5_discharge wIn_X5 wC_X5_discharge rfl rfl (by decide) dL_discharge_5 (Nat.le_of_ble_eq_true rfl) ⟨Nat.le_of_ble_eq_true rfl, Nat.le_of_ble_eq_true rfl⟩ [⟨0, 10, 13, 19⟩] ⟨0, 10, 17, 13⟩ [⟨0, 10, 21, 21⟩] rfl (List.forall_mem_cons.mpr ⟨⟨(by decide), eB, xl_B, ex_B, (by decide +kernel)⟩, fun _ h => absurd h List.not_mem_nil⟩) ex_A (by decide) (by decide) xl_A xc_A rfl (fun u5 x5 h5 => ?_)
    refine j_perm (pr_10_1_3_4_5_6_7_8_9 _ _ _ _ _ _ _ _ _ _) ?_
    refine j_ast_4 C dL_discharge_17 rfl ?_
    refine j_iconst C dL_discharge_19 ?_
    refine hR (c, L, S, u5, Y) dL_discharge_20 ?_ rfl (Nat.le_of_ble_eq_true rfl) (Nat.le_of_ble_eq_true rfl)
    exact Or.inr (Or.inr (Or.inl ⟨q0, rfl, rfl, rfl, rfl⟩))
  · refine j_perm (pm_10_1_3_4_5_6_7_8_9 _ _ _ _ _ _ _ _ _ _) ?_
    refine j_throwV C XK (As := [.int (iI _), .int (iI _)]) (c_X5_discharge_xC _ _ _ _ _ _ _ _ _ _ (d) _ _ _ _ _ _ _ _ _ (by first | assumption | omega) (by first | assumption | omega) (by first | assumption | omega) (by first | assumption | omega) (by first | assumption | omega) (by first | assumption | omega)) 2 nf_X5_discharge (jb := 0) rfl rfl wL_L_33 wI_X5_discharge wSe_X5_X5_discharge wIn_X5 wC_X5_discharge rfl rfl (by decide) dL_discharge_5 (Nat.le_of_ble_eq_true rfl) ⟨Nat.le_of_ble_eq_true rfl, Nat.le_of_ble_eq_true rfl⟩ [⟨0, 10, 13, 19⟩, ⟨0, 10, 17, 13⟩] ⟨0, 10, 21, 21⟩ [] rfl (List.forall_mem_cons.mpr ⟨⟨(by decide), eB, xl_B, ex_B, (by decide +kernel)⟩, List.forall_mem_cons.mpr ⟨⟨(by decide), eA, xl_A, ex_A, (by decide +kernel)⟩, fun _ h => absurd h List.not_mem_nil⟩⟩) ex_C (by decide) (by decide) xl_C xc_C rfl (fun u5 x5 h5 => ?_)
    refine j_perm (pr_10_1_3_4_5_6_7_8_9 _ _ _ _ _ _ _ _ _ _) ?_
    refine j_ast_4 C dL_discharge_21 rfl ?_
    refine j_iconst C dL_discharge_23 ?_
    refine hR (c, L, S, u5, Y) dL_discharge_24 ?_ rfl (Nat.le_of_ble_eq_true rfl) (Nat.le_of_ble_eq_true rfl)
    exact Or.inr (Or.inr (Or.inr (⟨q0, rfl, rfl, rfl, rfl⟩)))
set_option maxHeartbeats 1600000 in
set_option maxRecDepth 100000 in
theorem c_L_dischargeBest (l : Launch) (D : va_G) (cA : Nat → ClassId) (q v : Nat) (b tb r m o d : Nat → Nat) (c : Int) (w9 : Nat) (L : List ((Nat → Nat) × (Int → Int))) (z : Int) (X F Nx f0 : Int → Int) (S : Int → Int) (Y : Int → Int) (hfl : l.stackTraces = false) (hI : Inv S) (hz : Inz S) (hc : 0 ≤ c ∧ c ≤ 4 ∧ c ≤ (L.length : Int) ∧ L.length ≤ 4) : MW (U := Int × (List ((Nat → Nat) × (Int → Int))) × ((Int → Int)) × ((((Int → Int) × (Int → Int) × (Int → Int) × (Int → Int)) × Int)) × ((Int → Int))) l yL_dischargeBest cL_dischargeBest 3 (some .int) [(0, 8, 11, 21)] (rmN 28 9 333) D cA [.ref (q), .ref (w9)] [[(w9, lJ (cA 3) 1 Y)], prO q v b tb r m o c, svB cA v L, rgO r (d 0) z, dbO d, [(d 1, aJ (cA 0) 49 X)], [(d 2, aJ (cA 0) 49 F)], [(d 3, aJ (cA 0) 40 Nx)], [(r 1, aJ (cA 0) 2365 f0)], bk cA b S] (fun k9 u => ((0 < (RS S).length) ∧ k9 = 0 ∧ (u.2.2.2.2) 0 = ndI (bestV S) ∧ SVC c L S (u.1) (u.2.1) ∧ u.2.2.1 = (if best S = -1 then S else disB S)) ∨ (((RS S).length = 0) ∧ k9 = 1 ∧ (u.1 = c ∧ u.2.1 = L ∧ u.2.2.1 = S))) (fun u => [[(w9, lJ (cA 3) 1 (u.2.2.2.2))], prO q v b tb r m o u.1, svB cA v (u.2.1), rgO r (d 0) (u.2.2.2.1).2, dbO d, [(d 1, aJ (cA 0) 49 (u.2.2.2.1).1.1)], [(d 2, aJ (cA 0) 49 (u.2.2.2.1).1.2.1)], [(d 3, aJ (cA 0) 40 (u.2.2.2.1).1.2.2.1)], [(r 1, aJ (cA 0) 2365 (u.2.2.2.1).1.2.2.2)], bk cA b (u.2.2.1)]) := by
  refine m_startW pn_L rfl (List.forall_mem_cons.mpr ⟨rfl, List.forall_mem_cons.mpr ⟨rfl, fun _ h => absurd h List.not_mem_nil⟩⟩) (Nat.le_of_ble_eq_true rfl) ?_
  intro K C e1 e2 e3 XK hR
  subst e1 e2 e3
  have hN := hI.2.1
  have hQ := hI.1
  show J K 0 0 [[(w9, lJ ((kC K) 3) 1 Y)], prO q v b tb r m o c, svB (kC K) v L, rgO r (d 0) z, dbO d, [(d 1, aJ ((kC K) 0) 49 X)], [(d 2, aJ ((kC K) 0) 49 F)], [(d 3, aJ ((kC K) 0) 40 Nx)], [(r 1, aJ ((kC K) 0) 2365 f0)], bk (kC K) b S] [some (.ref (q)), some (.ref (w9)), none] 0 []
  refine j_aload_n C dL_dischargeBest_0 rfl ?_
  refine j_iconst C dL_dischargeBest_1 ?_
  refine j_aload_n C dL_dischargeBest_2 rfl ?_
  rcases (by omega : (0 < (RS S).length) ∨ ((RS S).length = 0)) with q0 | q0
  · refine j_perm (pm_10_1_2_3_4_5_6_7_8_9 _ _ _ _ _ _ _ _ _ _) ?_
    refine j_callVi C (As := []) (c_X5_dischargeBest _ _ _ _ _ _ _ _ _ _ (d) _ _ _ _ _ _ _ _ (by first | assumption | omega) (by first | assumption | omega) (by first | assumption | omega) (by first | assumption | omega)) 0 nf_X5_dischargeBest (jb := 0) rfl rfl wL_L_36 wI_X5_dischargeBest wSe_X5_X5_dischargeBest wIn_X5 wC_X5_dischargeBest rfl rfl (by decide) dL_dischargeBest_3 (Nat.le_of_ble_eq_true rfl) ⟨Nat.le_of_ble_eq_true rfl, Nat.le_of_ble_eq_true rfl⟩ (fun x3 u3 h3 => ?_)
    refine j_perm (pr_10_1_2_3_4_5_6_7_8_9 _ _ _ _ _ _ _ _ _ _) ?_
    refine j_i2lN C dL_dischargeBest_6 ?_
    refine j_last_p0 C 0 rfl lo_ast dL_dischargeBest_7 (by decide) (by omega) (by omega) ?_
    refine j_goto (tgt := 14) C dL_dischargeBest_8 (by decide) ?_
    refine j_iconst C dL_dischargeBest_14 ?_
    refine hR ((if c < 4 then c + 1 else 4), u3.2, (if best S = -1 then S else disB S), (u3.1, ((RS S).length : Int)), st Y 0 (ndI x3)) dL_dischargeBest_15 ?_ rfl (Nat.le_of_ble_eq_true rfl) (Nat.le_of_ble_eq_true rfl)
    exact Or.inl ⟨q0, rfl, (st_s Y 0 (ndI x3)).trans (congrArg ndI h3.1), ⟨rfl, h3.2⟩, rfl⟩
  · refine j_perm (pm_10_1_3_4_5_6_7_8_9 _ _ _ _ _ _ _ _ _ _) ?_
    refine j_throwV C XK (As := []) (c_X5_dischargeBest_xC _ _ _ _ _ _ _ _ _ _ (d) _ _ _ _ _ _ _ (by first | assumption | omega) (by first | assumption | omega) (by first | assumption | omega)) 0 nf_X5_dischargeBest (jb := 0) rfl rfl wL_L_36 wI_X5_dischargeBest wSe_X5_X5_dischargeBest wIn_X5 wC_X5_dischargeBest rfl rfl (by decide) dL_dischargeBest_3 (Nat.le_of_ble_eq_true rfl) ⟨Nat.le_of_ble_eq_true rfl, Nat.le_of_ble_eq_true rfl⟩ [] ⟨0, 8, 11, 21⟩ [] rfl (fun _ h => absurd h List.not_mem_nil) ex_C (by decide) (by decide) xl_C xc_C rfl (fun u3 x3 h3 => ?_)
    refine j_perm (pr_10_1_3_4_5_6_7_8_9 _ _ _ _ _ _ _ _ _ _) ?_
    refine j_astn_2 C dL_dischargeBest_11 rfl ?_
    refine j_iconst C dL_dischargeBest_12 ?_
    refine hR (c, L, S, u3, Y) dL_dischargeBest_13 ?_ rfl (Nat.le_of_ble_eq_true rfl) (Nat.le_of_ble_eq_true rfl)
    exact Or.inr (⟨q0, rfl, rfl, rfl, rfl⟩)
set_option maxHeartbeats 1600000 in
set_option maxRecDepth 100000 in
theorem c_L_promiseOf (l : Launch) (D : va_G) (cA : Nat → ClassId) (q v : Nat) (b tb r m o d : Nat → Nat) (c : Int) (w9 : Nat) (S : Int → Int) (Y : Int → Int) (i w : Int) (hfl : l.stackTraces = false) (hI : Inv S) (h_i : -2147483648 ≤ i ∧ i < 2147483648) (h_w : -2147483648 ≤ w ∧ w < 2147483648) : MW (U := ((Int → Int))) l yL_promiseOf cL_promiseOf 5 (some .int) [(0, 10, 13, 19), (0, 10, 17, 13)] (rmN 28 1 6) D cA [.ref (q), .int (iI i), .int (iI w), .ref (w9)] [[(w9, lJ (cA 3) 1 Y)], prO q v b tb r m o c, bk cA b S] (fun k9 u => (((0 ≤ i ∧ i < S 1) ∧ 0 ≤ w ∧ w ≤ 7) ∧ k9 = 0 ∧ (u) 0 = ndI (S (5 + 8 * i + w))) ∨ ((¬ (0 ≤ i ∧ i < S 1)) ∧ k9 = 1) ∨ (((0 ≤ i ∧ i < S 1) ∧ ¬ (0 ≤ w ∧ w ≤ 7)) ∧ k9 = 2)) (fun u => [[(w9, lJ (cA 3) 1 (u))], prO q v b tb r m o c, bk cA b S]) := by
  refine m_startW pn_L rfl (List.forall_mem_cons.mpr ⟨rfl, List.forall_mem_cons.mpr ⟨rfl, List.forall_mem_cons.mpr ⟨rfl, List.forall_mem_cons.mpr ⟨rfl, fun _ h => absurd h List.not_mem_nil⟩⟩⟩⟩) (Nat.le_of_ble_eq_true rfl) ?_
  intro K C e1 e2 e3 XK hR
  subst e1 e2 e3
  have hN := hI.2.1
  have hQ := hI.1
  show J K 0 0 [[(w9, lJ ((kC K) 3) 1 Y)], prO q v b tb r m o c, bk (kC K) b S] [some (.ref (q)), some (.int (iI i)), some (.int (iI w)), some (.ref (w9)), none] 0 []
  refine j_aload_n C dL_promiseOf_0 rfl ?_
  refine j_iconst C dL_promiseOf_1 ?_
  refine j_aload_n C dL_promiseOf_2 rfl ?_
  refine j_iload_n C dL_promiseOf_3 rfl ?_
  refine j_iload_n C dL_promiseOf_4 rfl ?_
  rcases (by omega : ((0 ≤ i ∧ i < S 1) ∧ 0 ≤ w ∧ w ≤ 7) ∨ (¬ (0 ≤ i ∧ i < S 1)) ∨ ((0 ≤ i ∧ i < S 1) ∧ ¬ (0 ≤ w ∧ w ≤ 7))) with q0 | q0 | q0
  · refine j_perm (pm_3_1_2 _ _ _) ?_
    refine j_callVi C (As := [.int (iI _), .int (iI _)]) (c_X5_promiseOf _ _ _ _ _ _ _ _ _ _ (d) _ _ _ _ (by first | assumption | omega) (by first | assumption | omega) (by first | assumption | omega)) 2 nf_X5_promiseOf (jb := 0) rfl rfl wL_L_40 wI_X5_promiseOf wSe_X5_X5_promiseOf wIn_X5 wC_X5_promiseOf rfl rfl (by decide) dL_promiseOf_5 (Nat.le_of_ble_eq_true rfl) ⟨Nat.le_of_ble_eq_true rfl, Nat.le_of_ble_eq_true rfl⟩ (fun x5 u5 h5 => ?_)
    refine j_perm (pr_3_1_2 _ _ _) ?_
    refine j_i2lN C dL_promiseOf_8 ?_
    refine j_last_p0 C 0 rfl lo_ast dL_promiseOf_9 (by decide) (by omega) (by omega) ?_
    refine j_goto (tgt := 21) C dL_promiseOf_10 (by decide) ?_
    refine j_iconst C dL_promiseOf_21 ?_
    refine hR (st Y 0 (ndI x5)) dL_promiseOf_22 ?_ rfl (Nat.le_of_ble_eq_true rfl) (Nat.le_of_ble_eq_true rfl)
    exact Or.inl ⟨q0, rfl, (st_s Y 0 (ndI x5)).trans (congrArg ndI h5)⟩
  · refine j_perm (pm_3_1_2 _ _ _) ?_
    refine j_throwV C XK (As := [.int (iI _), .int (iI _)]) (c_X5_promiseOf_xB _ _ _ _ _ _ _ _ _ _ (d) _ _ _ _ (by first | assumption | omega) (by first | assumption | omega) (by first | assumption | omega) (by first | assumption | omega)) 2 nf_X5_promiseOf (jb := 0) rfl rfl wL_L_40 wI_X5_promiseOf wSe_X5_X5_promiseOf wIn_X5 wC_X5_promiseOf rfl rfl (by decide) dL_promiseOf_5 (Nat.le_of_ble_eq_true rfl) ⟨Nat.le_of_ble_eq_true rfl, Nat.le_of_ble_eq_true rfl⟩ [] ⟨0, 10, 13, 19⟩ [⟨0, 10, 17, 13⟩] rfl (fun _ h => absurd h List.not_mem_nil) ex_B (by decide) (by decide) xl_B xc_B rfl (fun u5 x5 h5 => ?_)
    refine j_perm (pr_3_1_2 _ _ _) ?_
    refine j_ast_4 C dL_promiseOf_13 rfl ?_
    refine j_iconst C dL_promiseOf_15 ?_
    refine hR (Y) dL_promiseOf_16 ?_ rfl (Nat.le_of_ble_eq_true rfl) (Nat.le_of_ble_eq_true rfl)
    exact Or.inr (Or.inl ⟨q0, rfl⟩)
  · refine j_perm (pm_3_1_2 _ _ _) ?_
    refine j_throwV C XK (As := [.int (iI _), .int (iI _)]) (c_X5_promiseOf_xA _ _ _ _ _ _ _ _ _ _ (d) _ _ _ _ (by first | assumption | omega) (by first | assumption | omega) (by first | assumption | omega) (by first | assumption | omega) (by first | assumption | omega)) 2 nf_X5_promiseOf (jb := 0) rfl rfl wL_L_40 wI_X5_promiseOf wSe_X5_X5_promiseOf wIn_X5 wC_X5_promiseOf rfl rfl (by decide) dL_promiseOf_5 (Nat.le_of_ble_eq_true rfl) ⟨Nat.le_of_ble_eq_true rfl, Nat.le_of_ble_eq_true rfl⟩ [⟨0, 10, 13, 19⟩] ⟨0, 10, 17, 13⟩ [] rfl (List.forall_mem_cons.mpr ⟨⟨(by decide), eB, xl_B, ex_B, (by decide +kernel)⟩, fun _ h => absurd h List.not_mem_nil⟩) ex_A (by decide) (by decide) xl_A xc_A rfl (fun u5 x5 h5 => ?_)
    refine j_perm (pr_3_1_2 _ _ _) ?_
    refine j_ast_4 C dL_promiseOf_17 rfl ?_
    refine j_iconst C dL_promiseOf_19 ?_
    refine hR (Y) dL_promiseOf_20 ?_ rfl (Nat.le_of_ble_eq_true rfl) (Nat.le_of_ble_eq_true rfl)
    exact Or.inr (Or.inr (⟨q0, rfl⟩))
set_option maxHeartbeats 1600000 in
set_option maxRecDepth 100000 in
theorem c_L_debt (l : Launch) (D : va_G) (cA : Nat → ClassId) (q v : Nat) (b tb r m o d : Nat → Nat) (c : Int) (w9 : Nat) (S : Int → Int) (Y : Int → Int) (f t : Int) (hfl : l.stackTraces = false) (hI : Inv S) (h_f : -2147483648 ≤ f ∧ f < 2147483648) (h_t : -2147483648 ≤ t ∧ t < 2147483648) : MW (U := ((Int → Int))) l yL_debt cL_debt 5 (some .int) [(0, 10, 13, 19)] (rmN 28 1 6) D cA [.ref (q), .int (iI f), .int (iI t), .ref (w9)] [[(w9, lJ (cA 3) 1 Y)], prO q v b tb r m o c, bk cA b S] (fun k9 u => ((((0 ≤ f ∧ f < S 0) ∧ 0 ≤ t ∧ t < S 0)) ∧ k9 = 0 ∧ (u) 0 = ndI (debS S f t)) ∨ ((¬ ((0 ≤ f ∧ f < S 0) ∧ 0 ≤ t ∧ t < S 0)) ∧ k9 = 1)) (fun u => [[(w9, lJ (cA 3) 1 (u))], prO q v b tb r m o c, bk cA b S]) := by
  refine m_startW pn_L rfl (List.forall_mem_cons.mpr ⟨rfl, List.forall_mem_cons.mpr ⟨rfl, List.forall_mem_cons.mpr ⟨rfl, List.forall_mem_cons.mpr ⟨rfl, fun _ h => absurd h List.not_mem_nil⟩⟩⟩⟩) (Nat.le_of_ble_eq_true rfl) ?_
  intro K C e1 e2 e3 XK hR
  subst e1 e2 e3
  have hN := hI.2.1
  have hQ := hI.1
  show J K 0 0 [[(w9, lJ ((kC K) 3) 1 Y)], prO q v b tb r m o c, bk (kC K) b S] [some (.ref (q)), some (.int (iI f)), some (.int (iI t)), some (.ref (w9)), none] 0 []
  refine j_aload_n C dL_debt_0 rfl ?_
  refine j_iconst C dL_debt_1 ?_
  refine j_aload_n C dL_debt_2 rfl ?_
  refine j_iload_n C dL_debt_3 rfl ?_
  refine j_iload_n C dL_debt_4 rfl ?_
  rcases (by omega : (((0 ≤ f ∧ f < S 0) ∧ 0 ≤ t ∧ t < S 0)) ∨ (¬ ((0 ≤ f ∧ f < S 0) ∧ 0 ≤ t ∧ t < S 0))) with q0 | q0
  · refine j_perm (pm_3_1_2 _ _ _) ?_
    refine j_callVi C (As := [.int (iI _), .int (iI _)]) (c_X5_debt _ _ _ _ _ _ _ _ _ _ (d) _ _ _ _ (by first | assumption | omega) (by first | assumption | omega) (by first | assumption | omega)) 2 nf_X5_debt (jb := 0) rfl rfl wL_L_43 wI_X5_debt wSe_X5_X5_debt wIn_X5 wC_X5_debt rfl rfl (by decide) dL_debt_5 (Nat.le_of_ble_eq_true rfl) ⟨Nat.le_of_ble_eq_true rfl, Nat.le_of_ble_eq_true rfl⟩ (fun x5 u5 h5 => ?_)
    refine j_perm (pr_3_1_2 _ _ _) ?_
    refine j_i2lN C dL_debt_8 ?_
    refine j_last_p0 C 0 rfl lo_ast dL_debt_9 (by decide) (by omega) (by omega) ?_
    refine j_goto (tgt := 17) C dL_debt_10 (by decide) ?_
    refine j_iconst C dL_debt_17 ?_
    refine hR (st Y 0 (ndI x5)) dL_debt_18 ?_ rfl (Nat.le_of_ble_eq_true rfl) (Nat.le_of_ble_eq_true rfl)
    exact Or.inl ⟨q0, rfl, (st_s Y 0 (ndI x5)).trans (congrArg ndI h5)⟩
  · refine j_perm (pm_3_1_2 _ _ _) ?_
    refine j_throwV C XK (As := [.int (iI _), .int (iI _)]) (c_X5_debt_xB _ _ _ _ _ _ _ _ _ _ (d) _ _ _ _ (by first | assumption | omega) (by first | assumption | omega) (by first | assumption | omega) (by first | assumption | omega) (by first | assumption | omega)) 2 nf_X5_debt (jb := 0) rfl rfl wL_L_43 wI_X5_debt wSe_X5_X5_debt wIn_X5 wC_X5_debt rfl rfl (by decide) dL_debt_5 (Nat.le_of_ble_eq_true rfl) ⟨Nat.le_of_ble_eq_true rfl, Nat.le_of_ble_eq_true rfl⟩ [] ⟨0, 10, 13, 19⟩ [] rfl (fun _ h => absurd h List.not_mem_nil) ex_B (by decide) (by decide) xl_B xc_B rfl (fun u5 x5 h5 => ?_)
    refine j_perm (pr_3_1_2 _ _ _) ?_
    refine j_ast_4 C dL_debt_13 rfl ?_
    refine j_iconst C dL_debt_15 ?_
    refine hR (Y) dL_debt_16 ?_ rfl (Nat.le_of_ble_eq_true rfl) (Nat.le_of_ble_eq_true rfl)
    exact Or.inr (⟨q0, rfl⟩)
set_option maxHeartbeats 1600000 in
set_option maxRecDepth 100000 in
theorem c_L_net (l : Launch) (D : va_G) (cA : Nat → ClassId) (q v : Nat) (b tb r m o d : Nat → Nat) (c : Int) (w9 : Nat) (S : Int → Int) (Y : Int → Int) (p : Int) (hfl : l.stackTraces = false) (hI : Inv S) (h_p : -2147483648 ≤ p ∧ p < 2147483648) : MW (U := ((Int → Int))) l yL_net cL_net 4 (some .int) [(0, 9, 12, 19)] (rmN 28 1 6) D cA [.ref (q), .int (iI p), .ref (w9)] [[(w9, lJ (cA 3) 1 Y)], prO q v b tb r m o c, bk cA b S] (fun k9 u => (((0 ≤ p ∧ p < S 0)) ∧ k9 = 0 ∧ (u) 0 = ndI (netS S p)) ∨ ((¬ (0 ≤ p ∧ p < S 0)) ∧ k9 = 1)) (fun u => [[(w9, lJ (cA 3) 1 (u))], prO q v b tb r m o c, bk cA b S]) := by
  refine m_startW pn_L rfl (List.forall_mem_cons.mpr ⟨rfl, List.forall_mem_cons.mpr ⟨rfl, List.forall_mem_cons.mpr ⟨rfl, fun _ h => absurd h List.not_mem_nil⟩⟩⟩) (Nat.le_of_ble_eq_true rfl) ?_
  intro K C e1 e2 e3 XK hR
  subst e1 e2 e3
  have hN := hI.2.1
  have hQ := hI.1
  show J K 0 0 [[(w9, lJ ((kC K) 3) 1 Y)], prO q v b tb r m o c, bk (kC K) b S] [some (.ref (q)), some (.int (iI p)), some (.ref (w9)), none] 0 []
  refine j_aload_n C dL_net_0 rfl ?_
  refine j_iconst C dL_net_1 ?_
  refine j_aload_n C dL_net_2 rfl ?_
  refine j_iload_n C dL_net_3 rfl ?_
  rcases (by omega : ((0 ≤ p ∧ p < S 0)) ∨ (¬ (0 ≤ p ∧ p < S 0))) with q0 | q0
  · refine j_perm (pm_3_1_2 _ _ _) ?_
    refine j_callVi C (As := [.int (iI _)]) (c_X5_net _ _ _ _ _ _ _ _ _ _ (d) _ _ _ (by first | assumption | omega) (by first | assumption | omega)) 1 nf_X5_net (jb := 0) rfl rfl wL_L_46 wI_X5_net wSe_X5_X5_net wIn_X5 wC_X5_net rfl rfl (by decide) dL_net_4 (Nat.le_of_ble_eq_true rfl) ⟨Nat.le_of_ble_eq_true rfl, Nat.le_of_ble_eq_true rfl⟩ (fun x4 u4 h4 => ?_)
    refine j_perm (pr_3_1_2 _ _ _) ?_
    refine j_i2lN C dL_net_7 ?_
    refine j_last_p0 C 0 rfl lo_ast dL_net_8 (by decide) (by omega) (by omega) ?_
    refine j_goto (tgt := 15) C dL_net_9 (by decide) ?_
    refine j_iconst C dL_net_15 ?_
    refine hR (st Y 0 (ndI x4)) dL_net_16 ?_ rfl (Nat.le_of_ble_eq_true rfl) (Nat.le_of_ble_eq_true rfl)
    exact Or.inl ⟨q0, rfl, (st_s Y 0 (ndI x4)).trans (congrArg ndI h4)⟩
  · refine j_perm (pm_3_1_2 _ _ _) ?_
    refine j_throwV C XK (As := [.int (iI _)]) (c_X5_net_xB _ _ _ _ _ _ _ _ _ _ (d) _ _ _ (by first | assumption | omega) (by first | assumption | omega) (by first | assumption | omega) (by first | assumption | omega)) 1 nf_X5_net (jb := 0) rfl rfl wL_L_46 wI_X5_net wSe_X5_X5_net wIn_X5 wC_X5_net rfl rfl (by decide) dL_net_4 (Nat.le_of_ble_eq_true rfl) ⟨Nat.le_of_ble_eq_true rfl, Nat.le_of_ble_eq_true rfl⟩ [] ⟨0, 9, 12, 19⟩ [] rfl (fun _ h => absurd h List.not_mem_nil) ex_B (by decide) (by decide) xl_B xc_B rfl (fun u4 x4 h4 => ?_)
    refine j_perm (pr_3_1_2 _ _ _) ?_
    refine j_astn_3 C dL_net_12 rfl ?_
    refine j_iconst C dL_net_13 ?_
    refine hR (Y) dL_net_14 ?_ rfl (Nat.le_of_ble_eq_true rfl) (Nat.le_of_ble_eq_true rfl)
    exact Or.inr (⟨q0, rfl⟩)
set_option maxHeartbeats 1600000 in
set_option maxRecDepth 100000 in
theorem c_L_ring (l : Launch) (D : va_G) (cA : Nat → ClassId) (q v : Nat) (b tb r m o d : Nat → Nat) (c : Int) (w9 : Nat) (z : Int) (X F Nx f0 : Int → Int) (S : Int → Int) (Y : Int → Int) (j k : Int) (hfl : l.stackTraces = false) (hI : Inv S) (h_j : -2147483648 ≤ j ∧ j < 2147483648) (h_k : -2147483648 ≤ k ∧ k < 2147483648) : MW (U := ((((Int → Int) × (Int → Int) × (Int → Int) × (Int → Int)) × Int)) × ((Int → Int))) l yL_ring cL_ring 5 (some .int) [(0, 10, 13, 19), (0, 10, 17, 13)] (rmN 28 1 6) D cA [.ref (q), .int (iI j), .int (iI k), .ref (w9)] [[(w9, lJ (cA 3) 1 Y)], prO q v b tb r m o c, rgO r (d 0) z, dbO d, [(d 1, aJ (cA 0) 49 X)], [(d 2, aJ (cA 0) 49 F)], [(d 3, aJ (cA 0) 40 Nx)], [(r 1, aJ (cA 0) 2365 f0)], bk cA b S] (fun k9 u => (((0 ≤ j ∧ j < ((RS S).length : Int)) ∧ 0 ≤ k ∧ k < 7) ∧ k9 = 0 ∧ (u.2) 0 = ndI (((RS S).getD j.toNat []).getD k.toNat (-1))) ∨ ((¬ (0 ≤ j ∧ j < ((RS S).length : Int))) ∧ k9 = 1) ∨ (((0 ≤ j ∧ j < ((RS S).length : Int)) ∧ ¬ (0 ≤ k ∧ k < 7)) ∧ k9 = 2)) (fun u => [[(w9, lJ (cA 3) 1 (u.2))], prO q v b tb r m o c, rgO r (d 0) (u.1).2, dbO d, [(d 1, aJ (cA 0) 49 (u.1).1.1)], [(d 2, aJ (cA 0) 49 (u.1).1.2.1)], [(d 3, aJ (cA 0) 40 (u.1).1.2.2.1)], [(r 1, aJ (cA 0) 2365 (u.1).1.2.2.2)], bk cA b S]) := by
  refine m_startW pn_L rfl (List.forall_mem_cons.mpr ⟨rfl, List.forall_mem_cons.mpr ⟨rfl, List.forall_mem_cons.mpr ⟨rfl, List.forall_mem_cons.mpr ⟨rfl, fun _ h => absurd h List.not_mem_nil⟩⟩⟩⟩) (Nat.le_of_ble_eq_true rfl) ?_
  intro K C e1 e2 e3 XK hR
  subst e1 e2 e3
  have hN := hI.2.1
  have hQ := hI.1
  show J K 0 0 [[(w9, lJ ((kC K) 3) 1 Y)], prO q v b tb r m o c, rgO r (d 0) z, dbO d, [(d 1, aJ ((kC K) 0) 49 X)], [(d 2, aJ ((kC K) 0) 49 F)], [(d 3, aJ ((kC K) 0) 40 Nx)], [(r 1, aJ ((kC K) 0) 2365 f0)], bk (kC K) b S] [some (.ref (q)), some (.int (iI j)), some (.int (iI k)), some (.ref (w9)), none] 0 []
  refine j_aload_n C dL_ring_0 rfl ?_
  refine j_iconst C dL_ring_1 ?_
  refine j_aload_n C dL_ring_2 rfl ?_
  refine j_iload_n C dL_ring_3 rfl ?_
  refine j_iload_n C dL_ring_4 rfl ?_
  rcases (by omega : ((0 ≤ j ∧ j < ((RS S).length : Int)) ∧ 0 ≤ k ∧ k < 7) ∨ (¬ (0 ≤ j ∧ j < ((RS S).length : Int))) ∨ ((0 ≤ j ∧ j < ((RS S).length : Int)) ∧ ¬ (0 ≤ k ∧ k < 7))) with q0 | q0 | q0
  · refine j_perm (pm_9_1_2_3_4_5_6_7_8 _ _ _ _ _ _ _ _ _) ?_
    refine j_callVi C (As := [.int (iI _), .int (iI _)]) (c_X5_ring _ _ _ _ _ _ _ _ _ _ (d) _ _ _ _ _ _ _ _ _ (by first | assumption | omega) (by first | assumption | omega) (by first | assumption | omega)) 2 nf_X5_ring (jb := 0) rfl rfl wL_L_49 wI_X5_ring wSe_X5_X5_ring wIn_X5 wC_X5_ring rfl rfl (by decide) dL_ring_5 (Nat.le_of_ble_eq_true rfl) ⟨Nat.le_of_ble_eq_true rfl, Nat.le_of_ble_eq_true rfl⟩ (fun x5 u5 h5 => ?_)
    refine j_perm (pr_9_1_2_3_4_5_6_7_8 _ _ _ _ _ _ _ _ _) ?_
    refine j_i2lN C dL_ring_8 ?_
    refine j_last_p0 C 0 rfl lo_ast dL_ring_9 (by decide) (by omega) (by omega) ?_
    refine j_goto (tgt := 21) C dL_ring_10 (by decide) ?_
    refine j_iconst C dL_ring_21 ?_
    refine hR ((u5, ((RS S).length : Int)), st Y 0 (ndI x5)) dL_ring_22 ?_ rfl (Nat.le_of_ble_eq_true rfl) (Nat.le_of_ble_eq_true rfl)
    exact Or.inl ⟨q0, rfl, (st_s Y 0 (ndI x5)).trans (congrArg ndI h5)⟩
  · refine j_perm (pm_9_1_2_3_4_5_6_7_8 _ _ _ _ _ _ _ _ _) ?_
    refine j_throwV C XK (As := [.int (iI _), .int (iI _)]) (c_X5_ring_xB _ _ _ _ _ _ _ _ _ _ (d) _ _ _ _ _ _ _ _ _ (by first | assumption | omega) (by first | assumption | omega) (by first | assumption | omega) (by first | assumption | omega)) 2 nf_X5_ring (jb := 0) rfl rfl wL_L_49 wI_X5_ring wSe_X5_X5_ring wIn_X5 wC_X5_ring rfl rfl (by decide) dL_ring_5 (Nat.le_of_ble_eq_true rfl) ⟨Nat.le_of_ble_eq_true rfl, Nat.le_of_ble_eq_true rfl⟩ [] ⟨0, 10, 13, 19⟩ [⟨0, 10, 17, 13⟩] rfl (fun _ h => absurd h List.not_mem_nil) ex_B (by decide) (by decide) xl_B xc_B rfl (fun u5 x5 h5 => ?_)
    refine j_perm (pr_9_1_2_3_4_5_6_7_8 _ _ _ _ _ _ _ _ _) ?_
    refine j_ast_4 C dL_ring_13 rfl ?_
    refine j_iconst C dL_ring_15 ?_
    refine hR (u5, Y) dL_ring_16 ?_ rfl (Nat.le_of_ble_eq_true rfl) (Nat.le_of_ble_eq_true rfl)
    exact Or.inr (Or.inl ⟨q0, rfl⟩)
  · refine j_perm (pm_9_1_2_3_4_5_6_7_8 _ _ _ _ _ _ _ _ _) ?_
    refine j_throwV C XK (As := [.int (iI _), .int (iI _)]) (c_X5_ring_xA _ _ _ _ _ _ _ _ _ _ (d) _ _ _ _ _ _ _ _ _ (by first | assumption | omega) (by first | assumption | omega) (by first | assumption | omega) (by first | assumption | omega) (by first | assumption | omega)) 2 nf_X5_ring (jb := 0) rfl rfl wL_L_49 wI_X5_ring wSe_X5_X5_ring wIn_X5 wC_X5_ring rfl rfl (by decide) dL_ring_5 (Nat.le_of_ble_eq_true rfl) ⟨Nat.le_of_ble_eq_true rfl, Nat.le_of_ble_eq_true rfl⟩ [⟨0, 10, 13, 19⟩] ⟨0, 10, 17, 13⟩ [] rfl (List.forall_mem_cons.mpr ⟨⟨(by decide), eB, xl_B, ex_B, (by decide +kernel)⟩, fun _ h => absurd h List.not_mem_nil⟩) ex_A (by decide) (by decide) xl_A xc_A rfl (fun u5 x5 h5 => ?_)
    refine j_perm (pr_9_1_2_3_4_5_6_7_8 _ _ _ _ _ _ _ _ _) ?_
    refine j_ast_4 C dL_ring_17 rfl ?_
    refine j_iconst C dL_ring_19 ?_
    refine hR (u5, Y) dL_ring_20 ?_ rfl (Nat.le_of_ble_eq_true rfl) (Nat.le_of_ble_eq_true rfl)
    exact Or.inr (Or.inr (⟨q0, rfl⟩))
set_option maxHeartbeats 1600000 in
set_option maxRecDepth 100000 in
theorem c_L_room (l : Launch) (D : va_G) (cA : Nat → ClassId) (q v : Nat) (b tb r m o d : Nat → Nat) (c : Int) (w9 : Nat) (z : Int) (X F Nx f0 : Int → Int) (S : Int → Int) (Y : Int → Int) (j : Int) (hfl : l.stackTraces = false) (hI : Inv S) (h_j : -2147483648 ≤ j ∧ j < 2147483648) : MW (U := ((((Int → Int) × (Int → Int) × (Int → Int) × (Int → Int)) × Int)) × ((Int → Int))) l yL_room cL_room 4 (some .int) [(0, 9, 12, 19)] (rmN 28 1 6) D cA [.ref (q), .int (iI j), .ref (w9)] [[(w9, lJ (cA 3) 1 Y)], prO q v b tb r m o c, rgO r (d 0) z, dbO d, [(d 1, aJ (cA 0) 49 X)], [(d 2, aJ (cA 0) 49 F)], [(d 3, aJ (cA 0) 40 Nx)], [(r 1, aJ (cA 0) 2365 f0)], bk cA b S] (fun k9 u => (((0 ≤ j ∧ j < ((RS S).length : Int))) ∧ k9 = 0 ∧ (u.2) 0 = ndI (room S ((RS S).getD j.toNat []))) ∨ ((¬ (0 ≤ j ∧ j < ((RS S).length : Int))) ∧ k9 = 1)) (fun u => [[(w9, lJ (cA 3) 1 (u.2))], prO q v b tb r m o c, rgO r (d 0) (u.1).2, dbO d, [(d 1, aJ (cA 0) 49 (u.1).1.1)], [(d 2, aJ (cA 0) 49 (u.1).1.2.1)], [(d 3, aJ (cA 0) 40 (u.1).1.2.2.1)], [(r 1, aJ (cA 0) 2365 (u.1).1.2.2.2)], bk cA b S]) := by
  refine m_startW pn_L rfl (List.forall_mem_cons.mpr ⟨rfl, List.forall_mem_cons.mpr ⟨rfl, List.forall_mem_cons.mpr ⟨rfl, fun _ h => absurd h List.not_mem_nil⟩⟩⟩) (Nat.le_of_ble_eq_true rfl) ?_
  intro K C e1 e2 e3 XK hR
  subst e1 e2 e3
  have hN := hI.2.1
  have hQ := hI.1
  show J K 0 0 [[(w9, lJ ((kC K) 3) 1 Y)], prO q v b tb r m o c, rgO r (d 0) z, dbO d, [(d 1, aJ ((kC K) 0) 49 X)], [(d 2, aJ ((kC K) 0) 49 F)], [(d 3, aJ ((kC K) 0) 40 Nx)], [(r 1, aJ ((kC K) 0) 2365 f0)], bk (kC K) b S] [some (.ref (q)), some (.int (iI j)), some (.ref (w9)), none] 0 []
  refine j_aload_n C dL_room_0 rfl ?_
  refine j_iconst C dL_room_1 ?_
  refine j_aload_n C dL_room_2 rfl ?_
  refine j_iload_n C dL_room_3 rfl ?_
  rcases (by omega : ((0 ≤ j ∧ j < ((RS S).length : Int))) ∨ (¬ (0 ≤ j ∧ j < ((RS S).length : Int)))) with q0 | q0
  · refine j_perm (pm_9_1_2_3_4_5_6_7_8 _ _ _ _ _ _ _ _ _) ?_
    refine j_callVi C (As := [.int (iI _)]) (c_X5_room _ _ _ _ _ _ _ _ _ _ (d) _ _ _ _ _ _ _ _ (by first | assumption | omega) (by first | assumption | omega)) 1 nf_X5_room (jb := 0) rfl rfl wL_L_52 wI_X5_room wSe_X5_X5_room wIn_X5 wC_X5_room rfl rfl (by decide) dL_room_4 (Nat.le_of_ble_eq_true rfl) ⟨Nat.le_of_ble_eq_true rfl, Nat.le_of_ble_eq_true rfl⟩ (fun x4 u4 h4 => ?_)
    refine j_perm (pr_9_1_2_3_4_5_6_7_8 _ _ _ _ _ _ _ _ _) ?_
    refine j_i2lN C dL_room_7 ?_
    refine j_last_p0 C 0 rfl lo_ast dL_room_8 (by decide) (by omega) (by omega) ?_
    refine j_goto (tgt := 15) C dL_room_9 (by decide) ?_
    refine j_iconst C dL_room_15 ?_
    refine hR ((u4, ((RS S).length : Int)), st Y 0 (ndI x4)) dL_room_16 ?_ rfl (Nat.le_of_ble_eq_true rfl) (Nat.le_of_ble_eq_true rfl)
    exact Or.inl ⟨q0, rfl, (st_s Y 0 (ndI x4)).trans (congrArg ndI h4)⟩
  · refine j_perm (pm_9_1_2_3_4_5_6_7_8 _ _ _ _ _ _ _ _ _) ?_
    refine j_throwV C XK (As := [.int (iI _)]) (c_X5_room_xB _ _ _ _ _ _ _ _ _ _ (d) _ _ _ _ _ _ _ _ (by first | assumption | omega) (by first | assumption | omega) (by first | assumption | omega) (by first | assumption | omega)) 1 nf_X5_room (jb := 0) rfl rfl wL_L_52 wI_X5_room wSe_X5_X5_room wIn_X5 wC_X5_room rfl rfl (by decide) dL_room_4 (Nat.le_of_ble_eq_true rfl) ⟨Nat.le_of_ble_eq_true rfl, Nat.le_of_ble_eq_true rfl⟩ [] ⟨0, 9, 12, 19⟩ [] rfl (fun _ h => absurd h List.not_mem_nil) ex_B (by decide) (by decide) xl_B xc_B rfl (fun u4 x4 h4 => ?_)
    refine j_perm (pr_9_1_2_3_4_5_6_7_8 _ _ _ _ _ _ _ _ _) ?_
    refine j_astn_3 C dL_room_12 rfl ?_
    refine j_iconst C dL_room_13 ?_
    refine hR (u4, Y) dL_room_14 ?_ rfl (Nat.le_of_ble_eq_true rfl) (Nat.le_of_ble_eq_true rfl)
    exact Or.inr (⟨q0, rfl⟩)
set_option maxHeartbeats 1600000 in
set_option maxRecDepth 100000 in
theorem c_L_saving (l : Launch) (D : va_G) (cA : Nat → ClassId) (q v : Nat) (b tb r m o d : Nat → Nat) (c : Int) (w9 : Nat) (z : Int) (X F Nx f0 : Int → Int) (S : Int → Int) (Y : Int → Int) (j : Int) (hfl : l.stackTraces = false) (hI : Inv S) (h_j : -2147483648 ≤ j ∧ j < 2147483648) : MW (U := ((((Int → Int) × (Int → Int) × (Int → Int) × (Int → Int)) × Int)) × ((Int → Int))) l yL_saving cL_saving 4 (some .int) [(0, 9, 12, 19)] (rmN 28 1 6) D cA [.ref (q), .int (iI j), .ref (w9)] [[(w9, lJ (cA 3) 1 Y)], prO q v b tb r m o c, rgO r (d 0) z, dbO d, [(d 1, aJ (cA 0) 49 X)], [(d 2, aJ (cA 0) 49 F)], [(d 3, aJ (cA 0) 40 Nx)], [(r 1, aJ (cA 0) 2365 f0)], bk cA b S] (fun k9 u => (((0 ≤ j ∧ j < ((RS S).length : Int))) ∧ k9 = 0 ∧ (u.2) 0 = ndI (savP S ((RS S).getD j.toNat []) (room S ((RS S).getD j.toNat [])))) ∨ ((¬ (0 ≤ j ∧ j < ((RS S).length : Int))) ∧ k9 = 1)) (fun u => [[(w9, lJ (cA 3) 1 (u.2))], prO q v b tb r m o c, rgO r (d 0) (u.1).2, dbO d, [(d 1, aJ (cA 0) 49 (u.1).1.1)], [(d 2, aJ (cA 0) 49 (u.1).1.2.1)], [(d 3, aJ (cA 0) 40 (u.1).1.2.2.1)], [(r 1, aJ (cA 0) 2365 (u.1).1.2.2.2)], bk cA b S]) := by
  refine m_startW pn_L rfl (List.forall_mem_cons.mpr ⟨rfl, List.forall_mem_cons.mpr ⟨rfl, List.forall_mem_cons.mpr ⟨rfl, fun _ h => absurd h List.not_mem_nil⟩⟩⟩) (Nat.le_of_ble_eq_true rfl) ?_
  intro K C e1 e2 e3 XK hR
  subst e1 e2 e3
  have hN := hI.2.1
  have hQ := hI.1
  show J K 0 0 [[(w9, lJ ((kC K) 3) 1 Y)], prO q v b tb r m o c, rgO r (d 0) z, dbO d, [(d 1, aJ ((kC K) 0) 49 X)], [(d 2, aJ ((kC K) 0) 49 F)], [(d 3, aJ ((kC K) 0) 40 Nx)], [(r 1, aJ ((kC K) 0) 2365 f0)], bk (kC K) b S] [some (.ref (q)), some (.int (iI j)), some (.ref (w9)), none] 0 []
  refine j_aload_n C dL_saving_0 rfl ?_
  refine j_iconst C dL_saving_1 ?_
  refine j_aload_n C dL_saving_2 rfl ?_
  refine j_iload_n C dL_saving_3 rfl ?_
  rcases (by omega : ((0 ≤ j ∧ j < ((RS S).length : Int))) ∨ (¬ (0 ≤ j ∧ j < ((RS S).length : Int)))) with q0 | q0
  · refine j_perm (pm_9_1_2_3_4_5_6_7_8 _ _ _ _ _ _ _ _ _) ?_
    refine j_callVi C (As := [.int (iI _)]) (c_X5_saving _ _ _ _ _ _ _ _ _ _ (d) _ _ _ _ _ _ _ _ (by first | assumption | omega) (by first | assumption | omega)) 1 nf_X5_saving (jb := 0) rfl rfl wL_L_58 wI_X5_saving wSe_X5_X5_saving wIn_X5 wC_X5_saving rfl rfl (by decide) dL_saving_4 (Nat.le_of_ble_eq_true rfl) ⟨Nat.le_of_ble_eq_true rfl, Nat.le_of_ble_eq_true rfl⟩ (fun x4 u4 h4 => ?_)
    refine j_perm (pr_9_1_2_3_4_5_6_7_8 _ _ _ _ _ _ _ _ _) ?_
    refine j_i2lN C dL_saving_7 ?_
    refine j_last_p0 C 0 rfl lo_ast dL_saving_8 (by decide) (by omega) (by omega) ?_
    refine j_goto (tgt := 15) C dL_saving_9 (by decide) ?_
    refine j_iconst C dL_saving_15 ?_
    refine hR ((u4, ((RS S).length : Int)), st Y 0 (ndI x4)) dL_saving_16 ?_ rfl (Nat.le_of_ble_eq_true rfl) (Nat.le_of_ble_eq_true rfl)
    exact Or.inl ⟨q0, rfl, (st_s Y 0 (ndI x4)).trans (congrArg ndI h4)⟩
  · refine j_perm (pm_9_1_2_3_4_5_6_7_8 _ _ _ _ _ _ _ _ _) ?_
    refine j_throwV C XK (As := [.int (iI _)]) (c_X5_saving_xB _ _ _ _ _ _ _ _ _ _ (d) _ _ _ _ _ _ _ _ (by first | assumption | omega) (by first | assumption | omega) (by first | assumption | omega) (by first | assumption | omega)) 1 nf_X5_saving (jb := 0) rfl rfl wL_L_58 wI_X5_saving wSe_X5_X5_saving wIn_X5 wC_X5_saving rfl rfl (by decide) dL_saving_4 (Nat.le_of_ble_eq_true rfl) ⟨Nat.le_of_ble_eq_true rfl, Nat.le_of_ble_eq_true rfl⟩ [] ⟨0, 9, 12, 19⟩ [] rfl (fun _ h => absurd h List.not_mem_nil) ex_B (by decide) (by decide) xl_B xc_B rfl (fun u4 x4 h4 => ?_)
    refine j_perm (pr_9_1_2_3_4_5_6_7_8 _ _ _ _ _ _ _ _ _) ?_
    refine j_astn_3 C dL_saving_12 rfl ?_
    refine j_iconst C dL_saving_13 ?_
    refine hR (u4, Y) dL_saving_14 ?_ rfl (Nat.le_of_ble_eq_true rfl) (Nat.le_of_ble_eq_true rfl)
    exact Or.inr (⟨q0, rfl⟩)
set_option maxHeartbeats 1600000 in
set_option maxRecDepth 100000 in
theorem c_L_value (l : Launch) (D : va_G) (cA : Nat → ClassId) (q v : Nat) (b tb r m o d : Nat → Nat) (c : Int) (w9 : Nat) (z : Int) (X F Nx f0 : Int → Int) (S : Int → Int) (Y : Int → Int) (w : Int) (hfl : l.stackTraces = false) (hI : Inv S) (h_w : -2147483648 ≤ w ∧ w < 2147483648) : MW (U := ((((Int → Int) × (Int → Int) × (Int → Int) × (Int → Int)) × Int)) × ((Int → Int))) l yL_value cL_value 4 (some .int) [(0, 9, 12, 13)] (rmN 28 1 6) D cA [.ref (q), .int (iI w), .ref (w9)] [[(w9, lJ (cA 3) 1 Y)], prO q v b tb r m o c, rgO r (d 0) z, dbO d, [(d 1, aJ (cA 0) 49 X)], [(d 2, aJ (cA 0) 49 F)], [(d 3, aJ (cA 0) 40 Nx)], [(r 1, aJ (cA 0) 2365 f0)], bk cA b S] (fun k9 u => (((0 ≤ w ∧ w ≤ 10)) ∧ k9 = 0 ∧ (u.2) 0 = ndI (valS S w)) ∨ ((¬ (0 ≤ w ∧ w ≤ 10)) ∧ k9 = 1)) (fun u => [[(w9, lJ (cA 3) 1 (u.2))], prO q v b tb r m o c, rgO r (d 0) (u.1).2, dbO d, [(d 1, aJ (cA 0) 49 (u.1).1.1)], [(d 2, aJ (cA 0) 49 (u.1).1.2.1)], [(d 3, aJ (cA 0) 40 (u.1).1.2.2.1)], [(r 1, aJ (cA 0) 2365 (u.1).1.2.2.2)], bk cA b S]) := by
  refine m_startW pn_L rfl (List.forall_mem_cons.mpr ⟨rfl, List.forall_mem_cons.mpr ⟨rfl, List.forall_mem_cons.mpr ⟨rfl, fun _ h => absurd h List.not_mem_nil⟩⟩⟩) (Nat.le_of_ble_eq_true rfl) ?_
  intro K C e1 e2 e3 XK hR
  subst e1 e2 e3
  have hN := hI.2.1
  have hQ := hI.1
  show J K 0 0 [[(w9, lJ ((kC K) 3) 1 Y)], prO q v b tb r m o c, rgO r (d 0) z, dbO d, [(d 1, aJ ((kC K) 0) 49 X)], [(d 2, aJ ((kC K) 0) 49 F)], [(d 3, aJ ((kC K) 0) 40 Nx)], [(r 1, aJ ((kC K) 0) 2365 f0)], bk (kC K) b S] [some (.ref (q)), some (.int (iI w)), some (.ref (w9)), none] 0 []
  refine j_aload_n C dL_value_0 rfl ?_
  refine j_iconst C dL_value_1 ?_
  refine j_aload_n C dL_value_2 rfl ?_
  refine j_iload_n C dL_value_3 rfl ?_
  rcases (by omega : ((0 ≤ w ∧ w ≤ 10)) ∨ (¬ (0 ≤ w ∧ w ≤ 10))) with q0 | q0
  · refine j_perm (pm_9_1_2_3_4_5_6_7_8 _ _ _ _ _ _ _ _ _) ?_
    refine j_callVi C (As := [.int (iI _)]) (c_X5_value _ _ _ _ _ _ _ _ _ _ (d) _ _ _ _ _ _ _ _ (by first | assumption | omega) (by first | assumption | omega)) 1 nf_X5_value (jb := 0) rfl rfl wL_L_55 wI_X5_value wSe_X5_X5_value wIn_X5 wC_X5_value rfl rfl (by decide) dL_value_4 (Nat.le_of_ble_eq_true rfl) ⟨Nat.le_of_ble_eq_true rfl, Nat.le_of_ble_eq_true rfl⟩ (fun x4 u4 h4 => ?_)
    refine j_perm (pr_9_1_2_3_4_5_6_7_8 _ _ _ _ _ _ _ _ _) ?_
    refine j_i2lN C dL_value_7 ?_
    refine j_last_p0 C 0 rfl lo_ast dL_value_8 (by decide) (by omega) (by omega) ?_
    refine j_goto (tgt := 15) C dL_value_9 (by decide) ?_
    refine j_iconst C dL_value_15 ?_
    refine hR (((u4.1, u4.2.1, u4.2.2.1, u4.2.2.2.1), u4.2.2.2.2), st Y 0 (ndI x4)) dL_value_16 ?_ rfl (Nat.le_of_ble_eq_true rfl) (Nat.le_of_ble_eq_true rfl)
    exact Or.inl ⟨q0, rfl, (st_s Y 0 (ndI x4)).trans (congrArg ndI h4)⟩
  · refine j_perm (pm_9_1 _ _ _ _ _ _ _ _ _) ?_
    refine j_throwV C XK (As := [.int (iI _)]) (c_X5_value_xA _ _ _ _ _ _ _ _ _ _ (d) _ _ (by first | assumption | omega) (by first | assumption | omega) (by first | assumption | omega)) 1 nf_X5_value (jb := 0) rfl rfl wL_L_55 wI_X5_value wSe_X5_X5_value wIn_X5 wC_X5_value rfl rfl (by decide) dL_value_4 (Nat.le_of_ble_eq_true rfl) ⟨Nat.le_of_ble_eq_true rfl, Nat.le_of_ble_eq_true rfl⟩ [] ⟨0, 9, 12, 13⟩ [] rfl (fun _ h => absurd h List.not_mem_nil) ex_A (by decide) (by decide) xl_A xc_A rfl (fun u4 x4 h4 => ?_)
    refine j_perm (pr_9_1 _ _ _ _ _ _ _ _ _) ?_
    refine j_astn_3 C dL_value_12 rfl ?_
    refine j_iconst C dL_value_13 ?_
    refine hR (((X, F, Nx, f0), z), Y) dL_value_14 ?_ rfl (Nat.le_of_ble_eq_true rfl) (Nat.le_of_ble_eq_true rfl)
    exact Or.inr (⟨q0, rfl⟩)
set_option maxHeartbeats 1600000 in
set_option maxRecDepth 100000 in
theorem c_L_ringsWithout (l : Launch) (D : va_G) (cA : Nat → ClassId) (q v : Nat) (b tb r m o d : Nat → Nat) (c : Int) (w9 : Nat) (z : Int) (X F Nx f0 : Int → Int) (th : Int → Int) (S : Int → Int) (Y : Int → Int) (i : Int) (hfl : l.stackTraces = false) (hI : Inv S) (h_i : -2147483648 ≤ i ∧ i < 2147483648) : MW (U := ((((Int → Int) × (Int → Int) × (Int → Int) × (Int → Int)) × Int)) × ((Int → Int)) × ((Int → Int))) l yL_ringsWithout cL_ringsWithout 4 (some .int) [(0, 9, 12, 19)] (rmN 28 1 6) D cA [.ref (q), .int (iI i), .ref (w9)] [[(w9, lJ (cA 3) 1 Y)], prO q v b tb r m o c, rgO r (d 0) z, dbO d, [(d 1, aJ (cA 0) 49 X)], [(d 2, aJ (cA 0) 49 F)], [(d 3, aJ (cA 0) 40 Nx)], [(r 1, aJ (cA 0) 2365 f0)], [(r 2, aJ (cA 0) 49 th)], bk cA b S] (fun k9 u => (((0 ≤ i ∧ i < S 1)) ∧ k9 = 0 ∧ (u.2.2) 0 = ndI (rwO S i)) ∨ ((¬ (0 ≤ i ∧ i < S 1)) ∧ k9 = 1)) (fun u => [[(w9, lJ (cA 3) 1 (u.2.2))], prO q v b tb r m o c, rgO r (d 0) (u.1).2, dbO d, [(d 1, aJ (cA 0) 49 (u.1).1.1)], [(d 2, aJ (cA 0) 49 (u.1).1.2.1)], [(d 3, aJ (cA 0) 40 (u.1).1.2.2.1)], [(r 1, aJ (cA 0) 2365 (u.1).1.2.2.2)], [(r 2, aJ (cA 0) 49 (u.2.1))], bk cA b S]) := by
  refine m_startW pn_L rfl (List.forall_mem_cons.mpr ⟨rfl, List.forall_mem_cons.mpr ⟨rfl, List.forall_mem_cons.mpr ⟨rfl, fun _ h => absurd h List.not_mem_nil⟩⟩⟩) (Nat.le_of_ble_eq_true rfl) ?_
  intro K C e1 e2 e3 XK hR
  subst e1 e2 e3
  have hN := hI.2.1
  have hQ := hI.1
  show J K 0 0 [[(w9, lJ ((kC K) 3) 1 Y)], prO q v b tb r m o c, rgO r (d 0) z, dbO d, [(d 1, aJ ((kC K) 0) 49 X)], [(d 2, aJ ((kC K) 0) 49 F)], [(d 3, aJ ((kC K) 0) 40 Nx)], [(r 1, aJ ((kC K) 0) 2365 f0)], [(r 2, aJ ((kC K) 0) 49 th)], bk (kC K) b S] [some (.ref (q)), some (.int (iI i)), some (.ref (w9)), none] 0 []
  refine j_aload_n C dL_ringsWithout_0 rfl ?_
  refine j_iconst C dL_ringsWithout_1 ?_
  refine j_aload_n C dL_ringsWithout_2 rfl ?_
  refine j_iload_n C dL_ringsWithout_3 rfl ?_
  rcases (by omega : ((0 ≤ i ∧ i < S 1)) ∨ (¬ (0 ≤ i ∧ i < S 1))) with q0 | q0
  · refine j_perm (pm_10_1_2_3_4_5_6_7_8_9 _ _ _ _ _ _ _ _ _ _) ?_
    refine j_callVi C (As := [.int (iI _)]) (c_X5_ringsWithout _ _ _ _ _ _ _ _ _ _ (d) _ _ _ _ _ _ _ _ _ (by first | assumption | omega) (by first | assumption | omega)) 1 nf_X5_ringsWithout (jb := 0) rfl rfl wL_L_61 wI_X5_ringsWithout wSe_X5_X5_ringsWithout wIn_X5 wC_X5_ringsWithout rfl rfl (by decide) dL_ringsWithout_4 (Nat.le_of_ble_eq_true rfl) ⟨Nat.le_of_ble_eq_true rfl, Nat.le_of_ble_eq_true rfl⟩ (fun x4 u4 h4 => ?_)
    refine j_perm (pr_10_1_2_3_4_5_6_7_8_9 _ _ _ _ _ _ _ _ _ _) ?_
    refine j_i2lN C dL_ringsWithout_7 ?_
    refine j_last_p0 C 0 rfl lo_ast dL_ringsWithout_8 (by decide) (by omega) (by omega) ?_
    refine j_goto (tgt := 15) C dL_ringsWithout_9 (by decide) ?_
    refine j_iconst C dL_ringsWithout_15 ?_
    refine hR ((u4.1, ((RS S).length : Int)), u4.2, st Y 0 (ndI x4)) dL_ringsWithout_16 ?_ rfl (Nat.le_of_ble_eq_true rfl) (Nat.le_of_ble_eq_true rfl)
    exact Or.inl ⟨q0, rfl, (st_s Y 0 (ndI x4)).trans (congrArg ndI h4)⟩
  · refine j_perm (pm_10_1_9 _ _ _ _ _ _ _ _ _ _) ?_
    refine j_throwV C XK (As := [.int (iI _)]) (c_X5_ringsWithout_xB _ _ _ _ _ _ _ _ _ _ (d) _ _ _ (by first | assumption | omega) (by first | assumption | omega) (by first | assumption | omega) (by first | assumption | omega)) 1 nf_X5_ringsWithout (jb := 0) rfl rfl wL_L_61 wI_X5_ringsWithout wSe_X5_X5_ringsWithout wIn_X5 wC_X5_ringsWithout rfl rfl (by decide) dL_ringsWithout_4 (Nat.le_of_ble_eq_true rfl) ⟨Nat.le_of_ble_eq_true rfl, Nat.le_of_ble_eq_true rfl⟩ [] ⟨0, 9, 12, 19⟩ [] rfl (fun _ h => absurd h List.not_mem_nil) ex_B (by decide) (by decide) xl_B xc_B rfl (fun u4 x4 h4 => ?_)
    refine j_perm (pr_10_1_9 _ _ _ _ _ _ _ _ _ _) ?_
    refine j_astn_3 C dL_ringsWithout_12 rfl ?_
    refine j_iconst C dL_ringsWithout_13 ?_
    refine hR (((X, F, Nx, f0), z), th, Y) dL_ringsWithout_14 ?_ rfl (Nat.le_of_ble_eq_true rfl) (Nat.le_of_ble_eq_true rfl)
    exact Or.inr (⟨q0, rfl⟩)
set_option maxHeartbeats 1600000 in
set_option maxRecDepth 100000 in
theorem c_L_mutual (l : Launch) (D : va_G) (cA : Nat → ClassId) (q v : Nat) (b tb r m o d : Nat → Nat) (c : Int) (w9 : Nat) (S : Int → Int) (Y : Int → Int) (p : Int) (hfl : l.stackTraces = false) (hI : Inv S) (h_p : -2147483648 ≤ p ∧ p < 2147483648) : MW (U := ((Int → Int))) l yL_mutual cL_mutual 4 (some .int) [(0, 9, 12, 19)] (rmN 28 1 6) D cA [.ref (q), .int (iI p), .ref (w9)] [[(w9, lJ (cA 3) 1 Y)], prO q v b tb r m o c, bk cA b S] (fun k9 u => (((0 ≤ p ∧ p < S 0)) ∧ k9 = 0 ∧ (u) 0 = ndI (mutS S p)) ∨ ((¬ (0 ≤ p ∧ p < S 0)) ∧ k9 = 1)) (fun u => [[(w9, lJ (cA 3) 1 (u))], prO q v b tb r m o c, bk cA b S]) := by
  refine m_startW pn_L rfl (List.forall_mem_cons.mpr ⟨rfl, List.forall_mem_cons.mpr ⟨rfl, List.forall_mem_cons.mpr ⟨rfl, fun _ h => absurd h List.not_mem_nil⟩⟩⟩) (Nat.le_of_ble_eq_true rfl) ?_
  intro K C e1 e2 e3 XK hR
  subst e1 e2 e3
  have hN := hI.2.1
  have hQ := hI.1
  show J K 0 0 [[(w9, lJ ((kC K) 3) 1 Y)], prO q v b tb r m o c, bk (kC K) b S] [some (.ref (q)), some (.int (iI p)), some (.ref (w9)), none] 0 []
  refine j_aload_n C dL_mutual_0 rfl ?_
  refine j_iconst C dL_mutual_1 ?_
  refine j_aload_n C dL_mutual_2 rfl ?_
  refine j_iload_n C dL_mutual_3 rfl ?_
  rcases (by omega : ((0 ≤ p ∧ p < S 0)) ∨ (¬ (0 ≤ p ∧ p < S 0))) with q0 | q0
  · refine j_perm (pm_3_1_2 _ _ _) ?_
    refine j_callVi C (As := [.int (iI _)]) (c_X5_mutual _ _ _ _ _ _ _ _ _ _ (d) _ _ _ (by first | assumption | omega) (by first | assumption | omega)) 1 nf_X5_mutual (jb := 0) rfl rfl wL_L_64 wI_X5_mutual wSe_X5_X5_mutual wIn_X5 wC_X5_mutual rfl rfl (by decide) dL_mutual_4 (Nat.le_of_ble_eq_true rfl) ⟨Nat.le_of_ble_eq_true rfl, Nat.le_of_ble_eq_true rfl⟩ (fun x4 u4 h4 => ?_)
    refine j_perm (pr_3_1_2 _ _ _) ?_
    refine j_i2lN C dL_mutual_7 ?_
    refine j_last_p0 C 0 rfl lo_ast dL_mutual_8 (by decide) (by omega) (by omega) ?_
    refine j_goto (tgt := 15) C dL_mutual_9 (by decide) ?_
    refine j_iconst C dL_mutual_15 ?_
    refine hR (st Y 0 (ndI x4)) dL_mutual_16 ?_ rfl (Nat.le_of_ble_eq_true rfl) (Nat.le_of_ble_eq_true rfl)
    exact Or.inl ⟨q0, rfl, (st_s Y 0 (ndI x4)).trans (congrArg ndI h4)⟩
  · refine j_perm (pm_3_1_2 _ _ _) ?_
    refine j_throwV C XK (As := [.int (iI _)]) (c_X5_mutual_xB _ _ _ _ _ _ _ _ _ _ (d) _ _ _ (by first | assumption | omega) (by first | assumption | omega) (by first | assumption | omega) (by first | assumption | omega)) 1 nf_X5_mutual (jb := 0) rfl rfl wL_L_64 wI_X5_mutual wSe_X5_X5_mutual wIn_X5 wC_X5_mutual rfl rfl (by decide) dL_mutual_4 (Nat.le_of_ble_eq_true rfl) ⟨Nat.le_of_ble_eq_true rfl, Nat.le_of_ble_eq_true rfl⟩ [] ⟨0, 9, 12, 19⟩ [] rfl (fun _ h => absurd h List.not_mem_nil) ex_B (by decide) (by decide) xl_B xc_B rfl (fun u4 x4 h4 => ?_)
    refine j_perm (pr_3_1_2 _ _ _) ?_
    refine j_astn_3 C dL_mutual_12 rfl ?_
    refine j_iconst C dL_mutual_13 ?_
    refine hR (Y) dL_mutual_14 ?_ rfl (Nat.le_of_ble_eq_true rfl) (Nat.le_of_ble_eq_true rfl)
    exact Or.inr (⟨q0, rfl⟩)
set_option maxHeartbeats 1600000 in
set_option maxRecDepth 100000 in
theorem c_L_append (l : Launch) (D : va_G) (cA : Nat → ClassId) (q v : Nat) (b tb r m o d : Nat → Nat) (c : Int) (w9 : Nat) (O t : Int → Int) (Y : Int → Int) (w : Int) (hfl : l.stackTraces = false) (hO : 0 ≤ O 0 ∧ O 0 ≤ 100) (h_w : -2147483648 ≤ w ∧ w < 2147483648) : MW (U := ((Int → Int)) × ((Int → Int)) × ((Int → Int))) l yL_append cL_append 4 (some .int) [(0, 9, 12, 13), (0, 9, 15, 21)] (rmN 28 1 6) D cA [.ref (q), .int (iI w), .ref (w9)] [[(w9, lJ (cA 3) 1 Y)], prO q v b tb r m o c, orO o O, [(o 1, aJ (cA 0) 100 t)]] (fun k9 u => (((0 ≤ w ∧ w ≤ 127) ∧ O 0 < 100) ∧ k9 = 0 ∧ (u.2.2) 0 = ndI (O 0 + 1) ∧ (u.1 = st O 0 (O 0 + 1) ∧ u.2.1 = st t (O 0) w)) ∨ ((¬ (0 ≤ w ∧ w ≤ 127)) ∧ k9 = 1 ∧ (u.1 = O ∧ u.2.1 = t)) ∨ (((0 ≤ w ∧ w ≤ 127) ∧ O 0 = 100) ∧ k9 = 2 ∧ (u.1 = O ∧ u.2.1 = t))) (fun u => [[(w9, lJ (cA 3) 1 (u.2.2))], prO q v b tb r m o c, orO o (u.1), [(o 1, aJ (cA 0) 100 (u.2.1))]]) := by
  refine m_startW pn_L rfl (List.forall_mem_cons.mpr ⟨rfl, List.forall_mem_cons.mpr ⟨rfl, List.forall_mem_cons.mpr ⟨rfl, fun _ h => absurd h List.not_mem_nil⟩⟩⟩) (Nat.le_of_ble_eq_true rfl) ?_
  intro K C e1 e2 e3 XK hR
  subst e1 e2 e3
  show J K 0 0 [[(w9, lJ ((kC K) 3) 1 Y)], prO q v b tb r m o c, orO o O, [(o 1, aJ ((kC K) 0) 100 t)]] [some (.ref (q)), some (.int (iI w)), some (.ref (w9)), none] 0 []
  refine j_aload_n C dL_append_0 rfl ?_
  refine j_iconst C dL_append_1 ?_
  refine j_aload_n C dL_append_2 rfl ?_
  refine j_iload_n C dL_append_3 rfl ?_
  rcases (by omega : ((0 ≤ w ∧ w ≤ 127) ∧ O 0 < 100) ∨ (¬ (0 ≤ w ∧ w ≤ 127)) ∨ ((0 ≤ w ∧ w ≤ 127) ∧ O 0 = 100)) with q0 | q0 | q0
  · refine j_perm (pm_4_1_2_3 _ _ _ _) ?_
    refine j_callVi C (As := [.int (iI _)]) (c_X5_append _ _ _ _ _ _ _ _ _ _ (d) _ _ _ _ (by first | assumption | omega) (by first | assumption | omega)) 1 nf_X5_append (jb := 0) rfl rfl wL_L_67 wI_X5_append wSe_X5_X5_append wIn_X5 wC_X5_append rfl rfl (by decide) dL_append_4 (Nat.le_of_ble_eq_true rfl) ⟨Nat.le_of_ble_eq_true rfl, Nat.le_of_ble_eq_true rfl⟩ (fun x4 u4 h4 => ?_)
    refine j_perm (pr_4_1_2_3 _ _ _ _) ?_
    refine j_i2lN C dL_append_7 ?_
    refine j_last_p0 C 0 rfl lo_ast dL_append_8 (by decide) (by omega) (by omega) ?_
    refine j_goto (tgt := 18) C dL_append_9 (by decide) ?_
    refine j_iconst C dL_append_18 ?_
    refine hR (st O 0 (O 0 + 1), st t (O 0) w, st Y 0 (ndI x4)) dL_append_19 ?_ rfl (Nat.le_of_ble_eq_true rfl) (Nat.le_of_ble_eq_true rfl)
    exact Or.inl ⟨q0, rfl, (st_s Y 0 (ndI x4)).trans (congrArg ndI h4), rfl, rfl⟩
  · refine j_perm (pm_4_1 _ _ _ _) ?_
    refine j_throwV C XK (As := [.int (iI _)]) (c_X5_append_xA _ _ _ _ _ _ _ _ _ _ (d) _ _ (by first | assumption | omega) (by first | assumption | omega) (by first | assumption | omega)) 1 nf_X5_append (jb := 0) rfl rfl wL_L_67 wI_X5_append wSe_X5_X5_append wIn_X5 wC_X5_append rfl rfl (by decide) dL_append_4 (Nat.le_of_ble_eq_true rfl) ⟨Nat.le_of_ble_eq_true rfl, Nat.le_of_ble_eq_true rfl⟩ [] ⟨0, 9, 12, 13⟩ [⟨0, 9, 15, 21⟩] rfl (fun _ h => absurd h List.not_mem_nil) ex_A (by decide) (by decide) xl_A xc_A rfl (fun u4 x4 h4 => ?_)
    refine j_perm (pr_4_1 _ _ _ _) ?_
    refine j_astn_3 C dL_append_12 rfl ?_
    refine j_iconst C dL_append_13 ?_
    refine hR (O, t, Y) dL_append_14 ?_ rfl (Nat.le_of_ble_eq_true rfl) (Nat.le_of_ble_eq_true rfl)
    exact Or.inr (Or.inl ⟨q0, rfl, rfl, rfl⟩)
  · refine j_perm (pm_4_1_2 _ _ _ _) ?_
    refine j_throwV C XK (As := [.int (iI _)]) (c_X5_append_xC _ _ _ _ _ _ _ _ _ _ (d) _ _ _ (by first | assumption | omega) (by first | assumption | omega) (by first | assumption | omega)) 1 nf_X5_append (jb := 0) rfl rfl wL_L_67 wI_X5_append wSe_X5_X5_append wIn_X5 wC_X5_append rfl rfl (by decide) dL_append_4 (Nat.le_of_ble_eq_true rfl) ⟨Nat.le_of_ble_eq_true rfl, Nat.le_of_ble_eq_true rfl⟩ [⟨0, 9, 12, 13⟩] ⟨0, 9, 15, 21⟩ [] rfl (List.forall_mem_cons.mpr ⟨⟨(by decide), eA, xl_A, ex_A, (by decide +kernel)⟩, fun _ h => absurd h List.not_mem_nil⟩) ex_C (by decide) (by decide) xl_C xc_C rfl (fun u4 x4 h4 => ?_)
    refine j_perm (pr_4_1_2 _ _ _ _) ?_
    refine j_astn_3 C dL_append_15 rfl ?_
    refine j_iconst C dL_append_16 ?_
    refine hR (O, t, Y) dL_append_17 ?_ rfl (Nat.le_of_ble_eq_true rfl) (Nat.le_of_ble_eq_true rfl)
    exact Or.inr (Or.inr (⟨q0, rfl, rfl, rfl⟩))
set_option maxHeartbeats 1600000 in
set_option maxRecDepth 100000 in
theorem c_L_undo (l : Launch) (D : va_G) (cA : Nat → ClassId) (q v : Nat) (b tb r m o d : Nat → Nat) (c : Int) (w9 : Nat) (L : List ((Nat → Nat) × (Int → Int))) (S Y : Int → Int) (hfl : l.stackTraces = false) (hc : 0 ≤ c ∧ c ≤ 4 ∧ c ≤ (L.length : Int) ∧ L.length ≤ 4) (hLz : ∀ p ∈ L, Inz p.2) : MW (U := Int × (Int → Int) × (Int → Int)) l yL_undo cL_undo 3 (some .int) [(0, 8, 11, 21)] (rmN 28 1 6) D cA [.ref (q), .ref (w9)] [[(w9, lJ (cA 3) 1 Y)], prO q v b tb r m o c, svB cA v L, bk cA b S] (fun k9 u => (0 < c ∧ k9 = 0 ∧ u.2.2 0 = ndI (c - 1) ∧ u.1 = c - 1 ∧ ∃ p, L[(c - 1).toNat]? = some p ∧ u.2.1 = cpS S p.2) ∨ (c = 0 ∧ k9 = 1 ∧ u.1 = c ∧ u.2.1 = S)) (fun u => [[(w9, lJ (cA 3) 1 u.2.2)], prO q v b tb r m o u.1, svB cA v L, bk cA b u.2.1]) := by
  refine m_startW pn_L rfl (List.forall_mem_cons.mpr ⟨rfl, List.forall_mem_cons.mpr ⟨rfl, fun _ h => absurd h List.not_mem_nil⟩⟩) (Nat.le_of_ble_eq_true rfl) ?_
  intro K C e1 e2 e3 XK hR
  subst e1 e2 e3
  show J K 0 0 [[(w9, lJ ((kC K) 3) 1 Y)], prO q v b tb r m o c, svB (kC K) v L, bk (kC K) b S] [some (.ref (q)), some (.ref (w9)), none] 0 []
  refine j_aload_n C dL_undo_0 rfl ?_
  refine j_iconst C dL_undo_1 ?_
  refine j_aload_n C dL_undo_2 rfl ?_
  rcases (by omega : (0 < c) ∨ (c = 0)) with q0 | q0
  · obtain ⟨L1, L2, k, T, hL, hl1⟩ := L_at q0 hc.2.2.1
    subst hL
    have hzT := hLz (k, T) (List.mem_append_right _ List.mem_cons_self)
    refine j_perm (pm_4_1_2_3 _ _ _ _) ?_
    refine j_callVi C (As := []) (c_X5_undo _ _ _ _ _ _ _ _ _ _ (d) _ _ _ _ _ _ (by first | assumption | omega) (by first | assumption | omega)) 0 nf_X5_undo (jb := 0) rfl rfl wL_L_70 wI_X5_undo wSe_X5_X5_undo wIn_X5 wC_X5_undo rfl rfl (by decide) dL_undo_3 (Nat.le_of_ble_eq_true rfl) ⟨Nat.le_of_ble_eq_true rfl, Nat.le_of_ble_eq_true rfl⟩ (fun x3 u3 h3 => ?_)
    refine j_perm (pr_4_1_2_3 _ _ _ _) ?_
    refine j_i2lN C dL_undo_6 ?_
    refine j_last_p0 C 0 rfl lo_ast dL_undo_7 (by decide) (by omega) (by omega) ?_
    refine j_goto (tgt := 14) C dL_undo_8 (by decide) ?_
    refine j_iconst C dL_undo_14 ?_
    refine hR (c - 1, cpS S T, st Y 0 (ndI x3)) dL_undo_15 ?_ rfl (Nat.le_of_ble_eq_true rfl) (Nat.le_of_ble_eq_true rfl)
    exact Or.inl ⟨q0, rfl, (st_s Y 0 (ndI x3)).trans (congrArg ndI h3), rfl, (k, T), L_at2 hl1, rfl⟩
  · refine j_perm (pm_4_1 _ _ _ _) ?_
    refine j_throwV C XK (As := []) (c_X5_undo_xC _ _ _ _ _ _ _ _ _ _ (d) _ (by first | assumption | omega) (by first | assumption | omega)) 0 nf_X5_undo (jb := 0) rfl rfl wL_L_70 wI_X5_undo wSe_X5_X5_undo wIn_X5 wC_X5_undo rfl rfl (by decide) dL_undo_3 (Nat.le_of_ble_eq_true rfl) ⟨Nat.le_of_ble_eq_true rfl, Nat.le_of_ble_eq_true rfl⟩ [] ⟨0, 8, 11, 21⟩ [] rfl (fun _ h => absurd h List.not_mem_nil) ex_C (by decide) (by decide) xl_C xc_C rfl (fun u3 x3 h3 => ?_)
    refine j_perm (pr_4_1 _ _ _ _) ?_
    refine j_astn_2 C dL_undo_11 rfl ?_
    refine j_iconst C dL_undo_12 ?_
    refine hR (c, S, Y) dL_undo_13 ?_ rfl (Nat.le_of_ble_eq_true rfl) (Nat.le_of_ble_eq_true rfl)
    exact Or.inr ⟨q0, rfl, rfl, rfl⟩
