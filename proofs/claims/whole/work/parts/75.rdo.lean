/-! the reference: promises made, paid, disputed, settled -/
theorem ite01 {x : Int} {P : Prop} [Decidable P] (h : x = if P then 1 else 0) : (x = 1 ∧ P) ∨ (x = 0 ∧ ¬ P) := by
  by_cases c : P
  · rw [if_pos c] at h; exact Or.inl ⟨h, c⟩
  · rw [if_neg c] at h; exact Or.inr ⟨h, c⟩
theorem goes3 {u w x y z : Int} (h : u = (if x = 1 then 1 else if y = 1 then 2 else if z = 1 then 3 else 0) ∧ w = if u = 0 then 1 else 0) : (x = 1 ∧ u = 1 ∧ w = 0) ∨ (x ≠ 1 ∧ y = 1 ∧ u = 2 ∧ w = 0) ∨ (x ≠ 1 ∧ y ≠ 1 ∧ z = 1 ∧ u = 3 ∧ w = 0) ∨ (x ≠ 1 ∧ y ≠ 1 ∧ z ≠ 1 ∧ u = 0 ∧ w = 1) := by
  have g := ite01 h.2
  have h1 := h.1
  by_cases a : x = 1
  · rw [if_pos a] at h1; omega
  · rw [if_neg a] at h1
    by_cases b : y = 1
    · rw [if_pos b] at h1; omega
    · rw [if_neg b] at h1
      by_cases c : z = 1
      · rw [if_pos c] at h1; omega
      · rw [if_neg c] at h1; omega
theorem RU_of {G : Int → Int} {c cd : Int} (h : c = cd) : RU G (st G 2 c) cd := ⟨st_n (by omega), st_n (by omega), (st_s _ _ _).trans h⟩
theorem RU_KG {G G2 G3 : Int → Int} {cd : Int} (h : RU G G2 cd) (g : KG G2 G3) : RU G G3 cd := ⟨(g 0 (by omega)).trans h.1, (g 1 (by omega)).trans h.2.1, (g 2 (by omega)).trans h.2.2⟩
theorem RU_KG0 {G G2 G3 : Int → Int} {cd : Int} (g : KG G G2) (h : RU G2 G3 cd) : RU G G3 cd := ⟨h.1.trans (g 0 (by omega)), h.2.1.trans (g 1 (by omega)), h.2.2⟩
theorem RV2_of {G Ga M V V2 : Int → Int} (hK : RU G Ga 0) (h : SVP (Ga 0) M V V2) : RV2 G M V (st Ga 0 (if Ga 0 < 4 then Ga 0 + 1 else 4)) V2 := by
  refine ⟨by rw [hK.1] at h; exact h, ?_, (st_n (by omega)).trans hK.2.1, (st_n (by omega)).trans hK.2.2⟩
  rw [st_s, hK.1]
theorem RV2_KG {G M V G2 G3 V2 : Int → Int} (h : RV2 G M V G2 V2) (g : KG G2 G3) : RV2 G M V G3 V2 := ⟨h.1, (g 0 (by omega)).trans h.2.1, (g 1 (by omega)).trans h.2.2.1, (g 2 (by omega)).trans h.2.2.2⟩
theorem KG_34 (G : Int → Int) (x y : Int) : KG G (st (st G 3 x) 4 y) := KG_st (KG_st (KG_rfl G) (by omega)) (by omega)
theorem pay_Ag {S M : Int → Int} {i x : Int} (h : Ag S M) (k0 : 0 ≤ i) (k1 : i < S 1) : Ag (payP S i x) (payP M i x) := by
  have f := ag_f h k0 k1
  have e1 : am (payP M i x) i = am (payP M i x) i := rfl
  unfold payP
  have p1 : pa (st S (7 + 8 * i) (am S i - x)) i = pa S i := st_n (by omega)
  have p2 : pa (st M (7 + 8 * i) (am M i - x)) i = pa M i := st_n (by omega)
  rw [p1, p2, f.2.2.1, f.2.2.2.2.2.2.1]
  have g1 := Ag_st (v := am S i - x) h (i := 7 + 8 * i) (by omega) (by omega) (by omega)
  have s1 : st S (7 + 8 * i) (am S i - x) 1 = S 1 := st_n (by omega)
  have g2 := Ag_st (v := pa S i + x) g1 (i := 11 + 8 * i) (by omega) (by rw [s1]; omega) (by omega)
  have s2 : st (st S (7 + 8 * i) (am S i - x)) (11 + 8 * i) (pa S i + x) 1 = S 1 := (st_n (by omega)).trans s1
  have e2 : st (st M (7 + 8 * i) (am S i - x)) (11 + 8 * i) (pa S i + x) 2 = st (st S (7 + 8 * i) (am S i - x)) (11 + 8 * i) (pa S i + x) 2 := g2.1 2 (by omega) (by rw [s2]; omega)
  rw [e2]
  exact Ag_st g2 (by omega) (by rw [s2]; omega) (by omega)
theorem pm_7_0 (B0 B1 B2 B3 B4 B5 B6 : va_W) : [B0, B1, B2, B3, B4, B5, B6].Perm ([B0] ++ [B1, B2, B3, B4, B5, B6]) := List.Perm.refl _
theorem pr_7_0 (B0 B1 B2 B3 B4 B5 B6 : va_W) : ([B0] ++ [B1, B2, B3, B4, B5, B6]).Perm [B0, B1, B2, B3, B4, B5, B6] := (pm_7_0 B0 B1 B2 B3 B4 B5 B6).symm
theorem pm_7_0_1 (B0 B1 B2 B3 B4 B5 B6 : va_W) : [B0, B1, B2, B3, B4, B5, B6].Perm ([B0, B1] ++ [B2, B3, B4, B5, B6]) := List.Perm.trans (List.Perm.refl _) (List.Perm.cons _ (List.Perm.refl _))
theorem pr_7_0_1 (B0 B1 B2 B3 B4 B5 B6 : va_W) : ([B0, B1] ++ [B2, B3, B4, B5, B6]).Perm [B0, B1, B2, B3, B4, B5, B6] := (pm_7_0_1 B0 B1 B2 B3 B4 B5 B6).symm
theorem pm_7_0_1_2 (B0 B1 B2 B3 B4 B5 B6 : va_W) : [B0, B1, B2, B3, B4, B5, B6].Perm ([B0, B1, B2] ++ [B3, B4, B5, B6]) := List.Perm.trans (List.Perm.refl _) (List.Perm.trans (List.Perm.cons _ (List.Perm.refl _)) (List.Perm.cons _ (List.Perm.cons _ (List.Perm.refl _))))
theorem pr_7_0_1_2 (B0 B1 B2 B3 B4 B5 B6 : va_W) : ([B0, B1, B2] ++ [B3, B4, B5, B6]).Perm [B0, B1, B2, B3, B4, B5, B6] := (pm_7_0_1_2 B0 B1 B2 B3 B4 B5 B6).symm
theorem pm_7_0_1_3_4_5_6 (B0 B1 B2 B3 B4 B5 B6 : va_W) : [B0, B1, B2, B3, B4, B5, B6].Perm ([B0, B1, B3, B4, B5, B6] ++ [B2]) := List.Perm.trans (List.Perm.refl _) (List.Perm.trans (List.Perm.cons _ (List.Perm.refl _)) (List.Perm.trans (List.Perm.cons _ (List.Perm.cons _ (List.perm_middle (l₁ := [B2]) (a := B3) (l₂ := [B4, B5, B6])))) (List.Perm.trans (List.Perm.cons _ (List.Perm.cons _ (List.Perm.cons _ (List.perm_middle (l₁ := [B2]) (a := B4) (l₂ := [B5, B6]))))) (List.Perm.trans (List.Perm.cons _ (List.Perm.cons _ (List.Perm.cons _ (List.Perm.cons _ (List.perm_middle (l₁ := [B2]) (a := B5) (l₂ := [B6])))))) (List.Perm.cons _ (List.Perm.cons _ (List.Perm.cons _ (List.Perm.cons _ (List.Perm.cons _ (List.perm_middle (l₁ := [B2]) (a := B6) (l₂ := [])))))))))))
theorem pr_7_0_1_3_4_5_6 (B0 B1 B2 B3 B4 B5 B6 : va_W) : ([B0, B1, B3, B4, B5, B6] ++ [B2]).Perm [B0, B1, B2, B3, B4, B5, B6] := (pm_7_0_1_3_4_5_6 B0 B1 B2 B3 B4 B5 B6).symm
set_option maxHeartbeats 800000 in
set_option maxRecDepth 100000 in
theorem c_X6_begin (l : Launch) (D : va_G) (cA : Nat → ClassId) (a : Nat → Nat) (G M V S : Int → Int) (p : Int) (hI : Inv S) (hA : Ag S M) (hc : 0 ≤ G 0 ∧ G 0 ≤ 4) (hp : -2147483648 ≤ p ∧ p < 2147483648) : MI (U := (Int → Int) × (Int → Int) × (Int → Int)) l yX6_begin cX6_begin 4 (some .int) (rmN 3 0 0) D cA [.ref (a 0), .int (iI p)] [mO a G, [(a 1, aJ (cA 0) 325 M)], [(a 3, aJ (cA 0) 1300 V)]] (fun x u => ((2 ≤ p ∧ p ≤ 7) ∧ x = S 1 ∧ Ag (rstP S p) u.2.1 ∧ RV2 G M V u.1 u.2.2) ∨ (¬ (2 ≤ p ∧ p ≤ 7) ∧ (u.2.1 = M ∧ u.2.2 = V) ∧ RU G u.1 1)) (fun u => [mO a u.1, [(a 1, aJ (cA 0) 325 u.2.1)], [(a 3, aJ (cA 0) 1300 u.2.2)]]) := by
  refine m_startI pn_X6 rfl (List.forall_mem_cons.mpr ⟨rfl, List.forall_mem_cons.mpr ⟨rfl, fun _ h => absurd h List.not_mem_nil⟩⟩) (Nat.le_of_ble_eq_true rfl) ?_
  intro K C e1 e2 e3 hin hR
  subst e1 e2 e3
  have hN := hI.2.1
  have hQ := hI.1
  have hM := Ag_h hA hN.1
  have hM0 := hM.1
  have hM1 := hM.2.1
  show J K 0 0 [mO a G, [(a 1, aJ ((kC K) 0) 325 M)], [(a 3, aJ ((kC K) 0) 1300 V)]] [some (.ref (a 0)), some (.int (iI p)), none, none] 0 []
  refine j_aload_n C dX6_begin_0 rfl ?_
  have L16 : ∀ (x1 : Int) (hx1 : x1 = if ¬ (2 ≤ p ∧ p ≤ 7) then 1 else 0), J K 0 0 [mO a G, [(a 1, aJ ((kC K) 0) 325 M)], [(a 3, aJ ((kC K) 0) 1300 V)]] [some (.ref (a 0)), some (.int (iI p)), none, none] 16 [.int (iI x1), .ref (a 0)] := by
    intro x1 hx1
    have hbx1 : x1 = 0 ∨ x1 = 1 := by rw [hx1]; split <;> omega
    have qx1 := ite01 hx1
    refine j_iconst C dX6_begin_16 ?_
    refine j_iconst C dX6_begin_17 ?_
    refine j_perm (pm_3_0 _ _ _) ?_
    refine j_callVi C (As := [.int (iI _), .int (iI _), .int (iI _)]) (c_X6_goes _ _ _ _ _ _ _ _ (by first | assumption | omega) (by first | assumption | omega) (by first | assumption | omega)) 3 nf_X6_goes (jb := 0) rfl rfl wL_X6_146 wI_X6_goes wSe_X6_X6_goes wIn_X6 wC_X6_goes rfl rfl (by decide) dX6_begin_18 (Nat.le_of_ble_eq_true rfl) ⟨Nat.le_of_ble_eq_true rfl, Nat.le_of_ble_eq_true rfl⟩ (fun x18 u18 h18 => ?_)
    refine j_perm (pr_3_0 _ _ _) ?_
    have q18 := goes3 h18
    refine j_if_ne (tgt := 26) C dX6_begin_21 (by decide) (by omega) (by omega) (fun c21 => ?_) (fun c21 => ?_)
    · refine j_aload_n C dX6_begin_26 rfl ?_
      refine j_perm (pm_3_0_1_2 _ _ _) ?_
      refine j_callVv C (As := []) (c_X6_saves _ _ _ _ _ _ _ (by rw [show st G 2 u18 0 = G 0 from st_n (by omega)]; exact hc)) 0 nf_X6_saves (jb := 0) rfl rfl wL_X6_150 wI_X6_saves wSe_X6_X6_saves wIn_X6 wC_X6_saves rfl rfl (by decide) dX6_begin_27 (Nat.le_of_ble_eq_true rfl) ⟨Nat.le_of_ble_eq_true rfl, Nat.le_of_ble_eq_true rfl⟩ (fun u27 h27 => ?_)
      refine j_perm (pr_3_0_1_2 _ _ _) ?_
      have hRV := RV2_of (RU_of (G := G) (show u18 = 0 by omega)) h27
      refine j_aload_n C dX6_begin_30 rfl ?_
      refine j_get C 0 0 0 rfl rfl rfl wU_X6 (by decide) wF_X6_7 rfl dX6_begin_31 ?_
      refine j_iconst C dX6_begin_34 ?_
      refine j_iald C 1 0 rfl rfl dX6_begin_35 (by decide) (by omega) (by omega) ?_
      refine j_istn_2 C dX6_begin_36 rfl ?_
      refine j_iconst C dX6_begin_37 ?_
      refine j_istn_3 C dX6_begin_38 rfl ?_
      have L39 : ∀ (fuel : Nat) (k : Int) (M1 : Int → Int) (hk : 0 ≤ k ∧ k ≤ 325) (hz : ∀ j : Int, 0 ≤ j → j < k → M1 j = 0) (hf39 : (325 - k).toNat < fuel), J K 0 0 [mO a (st (st G 2 u18) 0 (if st G 2 u18 0 < 4 then st G 2 u18 0 + 1 else 4)), [(a 1, aJ ((kC K) 0) 325 M1)], [(a 3, aJ ((kC K) 0) 1300 u27)]] [some (.ref (a 0)), some (.int (iI p)), some (.int (iI (M 1))), some (.int (iI k))] 39 [] := by
        intro fuel
        induction fuel with
        | zero => intro k M1 hk hz hf39; exact absurd hf39 (Nat.not_lt_zero _)
        | succ fuel ih39 =>
          intro k M1 hk hz hf39
          refine j_iload_n C dX6_begin_39 rfl ?_
          refine j_sipush C dX6_begin_40 (by decide) ?_
          refine j_icmp_ge (tgt := 59) C dX6_begin_43 (by decide) (by omega) (by omega) (by omega) (by omega) (fun c43 => ?_) (fun c43 => ?_)
          · refine j_aload_n C dX6_begin_59 rfl ?_
            refine j_get C 0 0 0 rfl rfl rfl wU_X6 (by decide) wF_X6_7 rfl dX6_begin_60 ?_
            refine j_iconst C dX6_begin_63 ?_
            refine j_iload_n C dX6_begin_64 rfl ?_
            refine j_iast_p1 C 0 rfl ar1_ast dX6_begin_65 (by decide) (by omega) (by omega) ?_
            refine j_iload_n C dX6_begin_66 rfl ?_
            refine hR (st (st G 2 u18) 0 (if st G 2 u18 0 < 4 then st G 2 u18 0 + 1 else 4), st M1 0 p, u27) dX6_begin_67 ?_ rfl (Nat.le_of_ble_eq_true rfl) (Nat.le_of_ble_eq_true rfl)
            exact Or.inl ⟨by omega, hM1, Ag_rst (fun j b c => hz j b (by omega)), hRV⟩
          · refine j_aload_n C dX6_begin_46 rfl ?_
            refine j_get C 0 0 0 rfl rfl rfl wU_X6 (by decide) wF_X6_7 rfl dX6_begin_47 ?_
            refine j_iload_n C dX6_begin_50 rfl ?_
            refine j_iconst C dX6_begin_51 ?_
            refine j_iast_p1 C 0 rfl ar1_ast dX6_begin_52 (by decide) (by omega) (by omega) ?_
            refine j_iinc_3 C dX6_begin_53 rfl ?_
            refine j_goto (tgt := 39) C dX6_begin_56 (by decide) ?_
            exact ih39 _ _ (by omega) (by intro j b c; by_cases d : j = k; (rw [d, st_s]); (rw [st_n d]; exact hz j b (by omega))) (by omega)
      exact L39 _ _ _ (by omega) (by intro j b c; omega) (Nat.lt_succ_self _)
    · refine j_iconst C dX6_begin_24 ?_
      refine hR (st G 2 u18, M, V) dX6_begin_25 ?_ rfl (Nat.le_of_ble_eq_true rfl) (Nat.le_of_ble_eq_true rfl)
      exact Or.inr ⟨by omega, ⟨rfl, rfl⟩, RU_of (by omega)⟩
  refine j_iload_n C dX6_begin_1 rfl ?_
  refine j_iconst C dX6_begin_2 ?_
  refine j_bipush C dX6_begin_3 (by decide) ?_
  refine j_perm (pm_3 _ _ _) ?_
  refine j_callSi C (As := [.int (iI _), .int (iI _), .int (iI _)]) (c_X6_in _ _ _ _ _ _ (by first | assumption | omega) (by first | assumption | omega) (by first | assumption | omega)) 3 nf_X6_in.2 wL_X6_68 wS_X6_in wIn_X6 wC_X6_in rfl rfl (by decide) dX6_begin_5 (Nat.le_of_ble_eq_true rfl) ⟨Nat.le_of_ble_eq_true rfl, Nat.le_of_ble_eq_true rfl⟩ (fun x5 u5 h5 => ?_)
  refine j_perm (pr_3 _ _ _) ?_
  have q5 := ite01 h5
  refine j_if_ne (tgt := 15) C dX6_begin_8 (by decide) (by omega) (by omega) (fun c8 => ?_) (fun c8 => ?_)
  · refine j_iconst C dX6_begin_15 ?_
    exact L16 _ (by first | (rw [if_pos (by omega)]; done) | (rw [if_neg (by omega)]; done))
  · refine j_iconst C dX6_begin_11 ?_
    refine j_goto (tgt := 16) C dX6_begin_12 (by decide) ?_
    exact L16 _ (by first | (rw [if_pos (by omega)]; done) | (rw [if_neg (by omega)]; done))
set_option maxHeartbeats 800000 in
set_option maxRecDepth 100000 in
theorem c_X6_makes (l : Launch) (D : va_G) (cA : Nat → ClassId) (a : Nat → Nat) (G M : Int → Int) (f t x r : Int) (hM : 0 ≤ M 1 ∧ M 1 < 40) : MV (U := Unit) l yX6_makes cX6_makes 6 none (rmN 2 0 0) D cA [.ref (a 0), .int (iI f), .int (iI t), .int (iI x), .int (iI r)] [mO a G, [(a 1, aJ (cA 0) 325 M)]] (fun _ => True) (fun _ => [mO a G, [(a 1, aJ (cA 0) 325 (mkP M f t x r))]]) := by
  refine m_startV pn_X6 rfl (List.forall_mem_cons.mpr ⟨rfl, List.forall_mem_cons.mpr ⟨rfl, List.forall_mem_cons.mpr ⟨rfl, List.forall_mem_cons.mpr ⟨rfl, List.forall_mem_cons.mpr ⟨rfl, fun _ h => absurd h List.not_mem_nil⟩⟩⟩⟩⟩) (Nat.le_of_ble_eq_true rfl) ?_
  intro K C e1 e2 e3 hin hR
  subst e1 e2 e3
  show J K 0 0 [mO a G, [(a 1, aJ ((kC K) 0) 325 M)]] [some (.ref (a 0)), some (.int (iI f)), some (.int (iI t)), some (.int (iI x)), some (.int (iI r)), none] 0 []
  refine j_aload_n C dX6_makes_0 rfl ?_
  refine j_get C 0 0 0 rfl rfl rfl wU_X6 (by decide) wF_X6_7 rfl dX6_makes_1 ?_
  refine j_iconst C dX6_makes_4 ?_
  refine j_iald C 1 0 rfl rfl dX6_makes_5 (by decide) (by omega) (by omega) ?_
  refine j_ist_5 C dX6_makes_6 rfl ?_
  refine j_aload_n C dX6_makes_8 rfl ?_
  refine j_get C 0 0 0 rfl rfl rfl wU_X6 (by decide) wF_X6_7 rfl dX6_makes_9 ?_
  refine j_iload C dX6_makes_12 rfl ?_
  refine j_iconst C dX6_makes_14 ?_
  refine j_perm (pm_2 _ _) ?_
  refine j_callSi C (As := [.int (iI _), .int (iI _)]) (c_X6_p _ _ _ _ _ ) 2 nf_X6_p.2 wL_X6_79 wS_X6_p wIn_X6 wC_X6_p rfl rfl (by decide) dX6_makes_15 (Nat.le_of_ble_eq_true rfl) ⟨Nat.le_of_ble_eq_true rfl, Nat.le_of_ble_eq_true rfl⟩ (fun x15 u15 h15 => ?_)
  refine j_perm (pr_2 _ _) ?_
  subst h15
  refine j_iload_n C dX6_makes_18 rfl ?_
  refine j_iast_p1 C 0 rfl ar1_ast dX6_makes_19 (by decide) (by omega) (by omega) ?_
  refine j_aload_n C dX6_makes_20 rfl ?_
  refine j_get C 0 0 0 rfl rfl rfl wU_X6 (by decide) wF_X6_7 rfl dX6_makes_21 ?_
  refine j_iload C dX6_makes_24 rfl ?_
  refine j_iconst C dX6_makes_26 ?_
  refine j_perm (pm_2 _ _) ?_
  refine j_callSi C (As := [.int (iI _), .int (iI _)]) (c_X6_p _ _ _ _ _ ) 2 nf_X6_p.2 wL_X6_79 wS_X6_p wIn_X6 wC_X6_p rfl rfl (by decide) dX6_makes_27 (Nat.le_of_ble_eq_true rfl) ⟨Nat.le_of_ble_eq_true rfl, Nat.le_of_ble_eq_true rfl⟩ (fun x27 u27 h27 => ?_)
  refine j_perm (pr_2 _ _) ?_
  subst h27
  refine j_iload_n C dX6_makes_30 rfl ?_
  refine j_iast_p1 C 0 rfl ar1_ast dX6_makes_31 (by decide) (by omega) (by omega) ?_
  refine j_aload_n C dX6_makes_32 rfl ?_
  refine j_get C 0 0 0 rfl rfl rfl wU_X6 (by decide) wF_X6_7 rfl dX6_makes_33 ?_
  refine j_iload C dX6_makes_36 rfl ?_
  refine j_iconst C dX6_makes_38 ?_
  refine j_perm (pm_2 _ _) ?_
  refine j_callSi C (As := [.int (iI _), .int (iI _)]) (c_X6_p _ _ _ _ _ ) 2 nf_X6_p.2 wL_X6_79 wS_X6_p wIn_X6 wC_X6_p rfl rfl (by decide) dX6_makes_39 (Nat.le_of_ble_eq_true rfl) ⟨Nat.le_of_ble_eq_true rfl, Nat.le_of_ble_eq_true rfl⟩ (fun x39 u39 h39 => ?_)
  refine j_perm (pr_2 _ _) ?_
  subst h39
  refine j_iload_n C dX6_makes_42 rfl ?_
  refine j_iast_p1 C 0 rfl ar1_ast dX6_makes_43 (by decide) (by omega) (by omega) ?_
  refine j_aload_n C dX6_makes_44 rfl ?_
  refine j_get C 0 0 0 rfl rfl rfl wU_X6 (by decide) wF_X6_7 rfl dX6_makes_45 ?_
  refine j_iload C dX6_makes_48 rfl ?_
  refine j_iconst C dX6_makes_50 ?_
  refine j_perm (pm_2 _ _) ?_
  refine j_callSi C (As := [.int (iI _), .int (iI _)]) (c_X6_p _ _ _ _ _ ) 2 nf_X6_p.2 wL_X6_79 wS_X6_p wIn_X6 wC_X6_p rfl rfl (by decide) dX6_makes_51 (Nat.le_of_ble_eq_true rfl) ⟨Nat.le_of_ble_eq_true rfl, Nat.le_of_ble_eq_true rfl⟩ (fun x51 u51 h51 => ?_)
  refine j_perm (pr_2 _ _) ?_
  subst h51
  refine j_iload C dX6_makes_54 rfl ?_
  refine j_iast_p1 C 0 rfl ar1_ast dX6_makes_56 (by decide) (by omega) (by omega) ?_
  refine j_aload_n C dX6_makes_57 rfl ?_
  refine j_get C 0 0 0 rfl rfl rfl wU_X6 (by decide) wF_X6_7 rfl dX6_makes_58 ?_
  refine j_iload C dX6_makes_61 rfl ?_
  refine j_iconst C dX6_makes_63 ?_
  refine j_perm (pm_2 _ _) ?_
  refine j_callSi C (As := [.int (iI _), .int (iI _)]) (c_X6_p _ _ _ _ _ ) 2 nf_X6_p.2 wL_X6_79 wS_X6_p wIn_X6 wC_X6_p rfl rfl (by decide) dX6_makes_64 (Nat.le_of_ble_eq_true rfl) ⟨Nat.le_of_ble_eq_true rfl, Nat.le_of_ble_eq_true rfl⟩ (fun x64 u64 h64 => ?_)
  refine j_perm (pr_2 _ _) ?_
  subst h64
  refine j_iload_n C dX6_makes_67 rfl ?_
  refine j_iast_p1 C 0 rfl ar1_ast dX6_makes_68 (by decide) (by omega) (by omega) ?_
  refine j_aload_n C dX6_makes_69 rfl ?_
  refine j_get C 0 0 0 rfl rfl rfl wU_X6 (by decide) wF_X6_7 rfl dX6_makes_70 ?_
  refine j_iconst C dX6_makes_73 ?_
  refine j_dup2 C dX6_makes_74 rfl rfl ?_
  refine j_iald C 1 0 rfl rfl dX6_makes_75 (by decide) (by omega) (by omega) ?_
  refine j_iconst C dX6_makes_76 ?_
  refine j_iadd C dX6_makes_77 ?_
  refine j_iast_p1 C 0 rfl ar1_ast dX6_makes_78 (by decide) (by omega) (by omega) ?_
  exact hR () dX6_makes_79 (by trivial) rfl (Nat.le_of_ble_eq_true rfl) (Nat.le_of_ble_eq_true rfl)
set_option maxHeartbeats 800000 in
set_option maxRecDepth 100000 in
theorem c_X6_promise (l : Launch) (D : va_G) (cA : Nat → ClassId) (a : Nat → Nat) (G M V S : Int → Int) (f t x y : Int) (hI : Inv S) (hA : Ag S M) (hc : 0 ≤ G 0 ∧ G 0 ≤ 4) (hf : -2147483648 ≤ f ∧ f < 2147483648) (ht : -2147483648 ≤ t ∧ t < 2147483648) (hx : -2147483648 ≤ x ∧ x < 2147483648) (hy : -2147483648 ≤ y ∧ y < 2147483648) : MI (U := (Int → Int) × (Int → Int) × (Int → Int)) l yX6_promise cX6_promise 6 (some .int) (rmN 3 0 0) D cA [.ref (a 0), .int (iI f), .int (iI t), .int (iI x), .int (iI y)] [mO a G, [(a 1, aJ (cA 0) 325 M)], [(a 3, aJ (cA 0) 1300 V)]] (fun z u => ((((0 ≤ f ∧ f < S 0) ∧ 0 ≤ t ∧ t < S 0) ∧ (1 ≤ x ∧ x ≤ 1000 ∧ 1 ≤ y ∧ y ≤ 9 ∧ f ≠ t) ∧ S 1 < 40) ∧ z = S 1 ∧ Ag (addP S f t x y) u.2.1 ∧ RV2 G M V u.1 u.2.2) ∨ ((u.2.1 = M ∧ u.2.2 = V) ∧ ((¬ ((0 ≤ f ∧ f < S 0) ∧ 0 ≤ t ∧ t < S 0) ∧ RU G u.1 1) ∨ (((0 ≤ f ∧ f < S 0) ∧ 0 ≤ t ∧ t < S 0) ∧ ¬ (1 ≤ x ∧ x ≤ 1000 ∧ 1 ≤ y ∧ y ≤ 9 ∧ f ≠ t) ∧ RU G u.1 2) ∨ (((0 ≤ f ∧ f < S 0) ∧ 0 ≤ t ∧ t < S 0) ∧ (1 ≤ x ∧ x ≤ 1000 ∧ 1 ≤ y ∧ y ≤ 9 ∧ f ≠ t) ∧ S 1 = 40 ∧ RU G u.1 3)))) (fun u => [mO a u.1, [(a 1, aJ (cA 0) 325 u.2.1)], [(a 3, aJ (cA 0) 1300 u.2.2)]]) := by
  refine m_startI pn_X6 rfl (List.forall_mem_cons.mpr ⟨rfl, List.forall_mem_cons.mpr ⟨rfl, List.forall_mem_cons.mpr ⟨rfl, List.forall_mem_cons.mpr ⟨rfl, List.forall_mem_cons.mpr ⟨rfl, fun _ h => absurd h List.not_mem_nil⟩⟩⟩⟩⟩) (Nat.le_of_ble_eq_true rfl) ?_
  intro K C e1 e2 e3 hin hR
  subst e1 e2 e3
  have hN := hI.2.1
  have hQ := hI.1
  have hM := Ag_h hA hN.1
  have hM0 := hM.1
  have hM1 := hM.2.1
  show J K 0 0 [mO a G, [(a 1, aJ ((kC K) 0) 325 M)], [(a 3, aJ ((kC K) 0) 1300 V)]] [some (.ref (a 0)), some (.int (iI f)), some (.int (iI t)), some (.int (iI x)), some (.int (iI y)), none] 0 []
  have L32 : ∀ (m1 : Int) (hm1 : m1 = if (1 ≤ x ∧ x ≤ 1000 ∧ 1 ≤ y ∧ y ≤ 9 ∧ f ≠ t) then 1 else 0), J K 0 0 [mO a G, [(a 1, aJ ((kC K) 0) 325 M)], [(a 3, aJ ((kC K) 0) 1300 V)]] [some (.ref (a 0)), some (.int (iI f)), some (.int (iI t)), some (.int (iI x)), some (.int (iI y)), none] 32 [.int (iI m1)] := by
    intro m1 hm1
    have hbm1 : m1 = 0 ∨ m1 = 1 := by rw [hm1]; split <;> omega
    have qm1 := ite01 hm1
    refine j_ist_5 C dX6_promise_32 rfl ?_
    have L56 : ∀ (x1 : Int) (hx1 : x1 = if ¬ ((0 ≤ f ∧ f < S 0) ∧ 0 ≤ t ∧ t < S 0) then 1 else 0), J K 0 0 [mO a G, [(a 1, aJ ((kC K) 0) 325 M)], [(a 3, aJ ((kC K) 0) 1300 V)]] [some (.ref (a 0)), some (.int (iI f)), some (.int (iI t)), some (.int (iI x)), some (.int (iI y)), some (.int (iI m1))] 56 [.int (iI x1), .ref (a 0)] := by
      intro x1 hx1
      have hbx1 : x1 = 0 ∨ x1 = 1 := by rw [hx1]; split <;> omega
      have qx1 := ite01 hx1
      have L66 : ∀ (y1 : Int) (hy1 : y1 = if ¬ (1 ≤ x ∧ x ≤ 1000 ∧ 1 ≤ y ∧ y ≤ 9 ∧ f ≠ t) then 1 else 0), J K 0 0 [mO a G, [(a 1, aJ ((kC K) 0) 325 M)], [(a 3, aJ ((kC K) 0) 1300 V)]] [some (.ref (a 0)), some (.int (iI f)), some (.int (iI t)), some (.int (iI x)), some (.int (iI y)), some (.int (iI m1))] 66 [.int (iI y1), .int (iI x1), .ref (a 0)] := by
        intro y1 hy1
        have hby1 : y1 = 0 ∨ y1 = 1 := by rw [hy1]; split <;> omega
        have qy1 := ite01 hy1
        have L82 : ∀ (z1 : Int) (hz1 : z1 = if S 1 = 40 then 1 else 0), J K 0 0 [mO a G, [(a 1, aJ ((kC K) 0) 325 M)], [(a 3, aJ ((kC K) 0) 1300 V)]] [some (.ref (a 0)), some (.int (iI f)), some (.int (iI t)), some (.int (iI x)), some (.int (iI y)), some (.int (iI m1))] 82 [.int (iI z1), .int (iI y1), .int (iI x1), .ref (a 0)] := by
          intro z1 hz1
          have hbz1 : z1 = 0 ∨ z1 = 1 := by rw [hz1]; split <;> omega
          have qz1 := ite01 hz1
          refine j_perm (pm_3_0 _ _ _) ?_
          refine j_callVi C (As := [.int (iI _), .int (iI _), .int (iI _)]) (c_X6_goes _ _ _ _ _ _ _ _ (by first | assumption | omega) (by first | assumption | omega) (by first | assumption | omega)) 3 nf_X6_goes (jb := 0) rfl rfl wL_X6_146 wI_X6_goes wSe_X6_X6_goes wIn_X6 wC_X6_goes rfl rfl (by decide) dX6_promise_82 (Nat.le_of_ble_eq_true rfl) ⟨Nat.le_of_ble_eq_true rfl, Nat.le_of_ble_eq_true rfl⟩ (fun x82 u82 h82 => ?_)
          refine j_perm (pr_3_0 _ _ _) ?_
          have q82 := goes3 h82
          refine j_if_ne (tgt := 90) C dX6_promise_85 (by decide) (by omega) (by omega) (fun c85 => ?_) (fun c85 => ?_)
          · refine j_aload_n C dX6_promise_90 rfl ?_
            refine j_perm (pm_3_0_1_2 _ _ _) ?_
            refine j_callVv C (As := []) (c_X6_saves _ _ _ _ _ _ _ (by rw [show st G 2 u82 0 = G 0 from st_n (by omega)]; exact hc)) 0 nf_X6_saves (jb := 0) rfl rfl wL_X6_150 wI_X6_saves wSe_X6_X6_saves wIn_X6 wC_X6_saves rfl rfl (by decide) dX6_promise_91 (Nat.le_of_ble_eq_true rfl) ⟨Nat.le_of_ble_eq_true rfl, Nat.le_of_ble_eq_true rfl⟩ (fun u91 h91 => ?_)
            refine j_perm (pr_3_0_1_2 _ _ _) ?_
            have hRV := RV2_of (RU_of (G := G) (show u82 = 0 by omega)) h91
            refine j_aload_n C dX6_promise_94 rfl ?_
            refine j_iload_n C dX6_promise_95 rfl ?_
            refine j_iload_n C dX6_promise_96 rfl ?_
            refine j_iload_n C dX6_promise_97 rfl ?_
            refine j_iload C dX6_promise_98 rfl ?_
            refine j_perm (pm_3_0_1 _ _ _) ?_
            refine j_callVv C (As := [.int (iI _), .int (iI _), .int (iI _), .int (iI _)]) (c_X6_makes _ _ _ _ _ _ _ _ _ _ (by first | assumption | omega)) 4 nf_X6_makes (jb := 0) rfl rfl wL_X6_156 wI_X6_makes wSe_X6_X6_makes wIn_X6 wC_X6_makes rfl rfl (by decide) dX6_promise_100 (Nat.le_of_ble_eq_true rfl) ⟨Nat.le_of_ble_eq_true rfl, Nat.le_of_ble_eq_true rfl⟩ (fun u100 h100 => ?_)
            refine j_perm (pr_3_0_1 _ _ _) ?_
            refine j_aload_n C dX6_promise_103 rfl ?_
            refine j_get C 0 0 0 rfl rfl rfl wU_X6 (by decide) wF_X6_7 rfl dX6_promise_104 ?_
            refine j_iconst C dX6_promise_107 ?_
            refine j_iald C 1 0 rfl rfl dX6_promise_108 (by decide) (by omega) (by omega) ?_
            refine j_iconst C dX6_promise_109 ?_
            refine j_isub C dX6_promise_110 ?_
            refine hR (st (st G 2 u82) 0 (if st G 2 u82 0 < 4 then st G 2 u82 0 + 1 else 4), mkP M f t x y, u91) dX6_promise_111 ?_ rfl (Nat.le_of_ble_eq_true rfl) (Nat.le_of_ble_eq_true rfl)
            refine Or.inl ⟨⟨by omega, by omega, by omega⟩, ?_, mk_Ag hI hA (by omega) f t x y, hRV⟩
            have e1 : mkP M f t x y 1 = S 1 + 1 := by
              unfold mkP
              rw [st_s, st_n (by omega), st_n (by omega), st_n (by omega), st_n (by omega), st_n (by omega), hM1]
            omega
          · refine j_iconst C dX6_promise_88 ?_
            refine hR (st G 2 u82, M, V) dX6_promise_89 ?_ rfl (Nat.le_of_ble_eq_true rfl) (Nat.le_of_ble_eq_true rfl)
            refine Or.inr ⟨⟨rfl, rfl⟩, ?_⟩
            rcases q82 with q | q | q | q
            · exact Or.inl ⟨by omega, RU_of q.2.1⟩
            · exact Or.inr (Or.inl ⟨by omega, by omega, RU_of q.2.2.1⟩)
            · exact Or.inr (Or.inr ⟨by omega, by omega, by omega, RU_of q.2.2.2.1⟩)
            · omega
        refine j_aload_n C dX6_promise_66 rfl ?_
        refine j_get C 0 0 0 rfl rfl rfl wU_X6 (by decide) wF_X6_7 rfl dX6_promise_67 ?_
        refine j_iconst C dX6_promise_70 ?_
        refine j_iald C 1 0 rfl rfl dX6_promise_71 (by decide) (by omega) (by omega) ?_
        refine j_bipush C dX6_promise_72 (by decide) ?_
        refine j_icmp_ne (tgt := 81) C dX6_promise_74 (by decide) (by omega) (by omega) (by omega) (by omega) (fun c74 => ?_) (fun c74 => ?_)
        · refine j_iconst C dX6_promise_81 ?_
          exact L82 _ (by first | (rw [if_pos (by omega)]; done) | (rw [if_neg (by omega)]; done))
        · refine j_iconst C dX6_promise_77 ?_
          refine j_goto (tgt := 82) C dX6_promise_78 (by decide) ?_
          exact L82 _ (by first | (rw [if_pos (by omega)]; done) | (rw [if_neg (by omega)]; done))
      refine j_iload C dX6_promise_56 rfl ?_
      refine j_if_ne (tgt := 65) C dX6_promise_58 (by decide) (by omega) (by omega) (fun c58 => ?_) (fun c58 => ?_)
      · refine j_iconst C dX6_promise_65 ?_
        exact L66 _ (by first | (rw [if_pos (by omega)]; done) | (rw [if_neg (by omega)]; done))
      · refine j_iconst C dX6_promise_61 ?_
        refine j_goto (tgt := 66) C dX6_promise_62 (by decide) ?_
        exact L66 _ (by first | (rw [if_pos (by omega)]; done) | (rw [if_neg (by omega)]; done))
    refine j_aload_n C dX6_promise_34 rfl ?_
    refine j_aload_n C dX6_promise_35 rfl ?_
    refine j_iload_n C dX6_promise_36 rfl ?_
    refine j_perm (pm_3_0_1 _ _ _) ?_
    refine j_callVi C (As := [.int (iI _)]) (c_X6_isParty _ _ _ _ _ _ _ (by first | assumption | omega) (by first | assumption | omega)) 1 nf_X6_isParty (jb := 0) rfl rfl wL_X6_153 wI_X6_isParty wSe_X6_X6_isParty wIn_X6 wC_X6_isParty rfl rfl (by decide) dX6_promise_37 (Nat.le_of_ble_eq_true rfl) ⟨Nat.le_of_ble_eq_true rfl, Nat.le_of_ble_eq_true rfl⟩ (fun x37 u37 h37 => ?_)
    refine j_perm (pr_3_0_1 _ _ _) ?_
    have q37 := ite01 h37
    refine j_if_eq (tgt := 51) C dX6_promise_40 (by decide) (by omega) (by omega) (fun c40 => ?_) (fun c40 => ?_)
    · refine j_iconst C dX6_promise_51 ?_
      refine j_goto (tgt := 56) C dX6_promise_52 (by decide) ?_
      exact L56 _ (by first | (rw [if_pos (by omega)]; done) | (rw [if_neg (by omega)]; done))
    · refine j_aload_n C dX6_promise_43 rfl ?_
      refine j_iload_n C dX6_promise_44 rfl ?_
      refine j_perm (pm_3_0_1 _ _ _) ?_
      refine j_callVi C (As := [.int (iI _)]) (c_X6_isParty _ _ _ _ _ _ _ (by first | assumption | omega) (by first | assumption | omega)) 1 nf_X6_isParty (jb := 0) rfl rfl wL_X6_153 wI_X6_isParty wSe_X6_X6_isParty wIn_X6 wC_X6_isParty rfl rfl (by decide) dX6_promise_45 (Nat.le_of_ble_eq_true rfl) ⟨Nat.le_of_ble_eq_true rfl, Nat.le_of_ble_eq_true rfl⟩ (fun x45 u45 h45 => ?_)
      refine j_perm (pr_3_0_1 _ _ _) ?_
      have q45 := ite01 h45
      refine j_if_ne (tgt := 55) C dX6_promise_48 (by decide) (by omega) (by omega) (fun c48 => ?_) (fun c48 => ?_)
      · refine j_iconst C dX6_promise_55 ?_
        exact L56 _ (by first | (rw [if_pos (by omega)]; done) | (rw [if_neg (by omega)]; done))
      · refine j_iconst C dX6_promise_51 ?_
        refine j_goto (tgt := 56) C dX6_promise_52 (by decide) ?_
        exact L56 _ (by first | (rw [if_pos (by omega)]; done) | (rw [if_neg (by omega)]; done))
  refine j_iload_n C dX6_promise_0 rfl ?_
  refine j_iconst C dX6_promise_1 ?_
  refine j_sipush C dX6_promise_2 (by decide) ?_
  refine j_perm (pm_3 _ _ _) ?_
  refine j_callSi C (As := [.int (iI _), .int (iI _), .int (iI _)]) (c_X6_in _ _ _ _ _ _ (by first | assumption | omega) (by first | assumption | omega) (by first | assumption | omega)) 3 nf_X6_in.2 wL_X6_68 wS_X6_in wIn_X6 wC_X6_in rfl rfl (by decide) dX6_promise_5 (Nat.le_of_ble_eq_true rfl) ⟨Nat.le_of_ble_eq_true rfl, Nat.le_of_ble_eq_true rfl⟩ (fun x5 u5 h5 => ?_)
  refine j_perm (pr_3 _ _ _) ?_
  have q5 := ite01 h5
  refine j_if_eq (tgt := 31) C dX6_promise_8 (by decide) (by omega) (by omega) (fun c8 => ?_) (fun c8 => ?_)
  · refine j_iconst C dX6_promise_31 ?_
    exact L32 _ (by first | (rw [if_pos (by omega)]; done) | (rw [if_neg (by omega)]; done))
  · refine j_iload C dX6_promise_11 rfl ?_
    refine j_iconst C dX6_promise_13 ?_
    refine j_bipush C dX6_promise_14 (by decide) ?_
    refine j_perm (pm_3 _ _ _) ?_
    refine j_callSi C (As := [.int (iI _), .int (iI _), .int (iI _)]) (c_X6_in _ _ _ _ _ _ (by first | assumption | omega) (by first | assumption | omega) (by first | assumption | omega)) 3 nf_X6_in.2 wL_X6_68 wS_X6_in wIn_X6 wC_X6_in rfl rfl (by decide) dX6_promise_16 (Nat.le_of_ble_eq_true rfl) ⟨Nat.le_of_ble_eq_true rfl, Nat.le_of_ble_eq_true rfl⟩ (fun x16 u16 h16 => ?_)
    refine j_perm (pr_3 _ _ _) ?_
    have q16 := ite01 h16
    refine j_if_eq (tgt := 31) C dX6_promise_19 (by decide) (by omega) (by omega) (fun c19 => ?_) (fun c19 => ?_)
    · refine j_iconst C dX6_promise_31 ?_
      exact L32 _ (by first | (rw [if_pos (by omega)]; done) | (rw [if_neg (by omega)]; done))
    · refine j_iload_n C dX6_promise_22 rfl ?_
      refine j_iload_n C dX6_promise_23 rfl ?_
      refine j_icmp_eq (tgt := 31) C dX6_promise_24 (by decide) (by omega) (by omega) (by omega) (by omega) (fun c24 => ?_) (fun c24 => ?_)
      · refine j_iconst C dX6_promise_31 ?_
        exact L32 _ (by first | (rw [if_pos (by omega)]; done) | (rw [if_neg (by omega)]; done))
      · refine j_iconst C dX6_promise_27 ?_
        refine j_goto (tgt := 32) C dX6_promise_28 (by decide) ?_
        exact L32 _ (by first | (rw [if_pos (by omega)]; done) | (rw [if_neg (by omega)]; done))
set_option maxHeartbeats 800000 in
set_option maxRecDepth 100000 in
theorem c_X6_pay (l : Launch) (D : va_G) (cA : Nat → ClassId) (a : Nat → Nat) (G M V S : Int → Int) (i w : Int) (hI : Inv S) (hA : Ag S M) (hc : 0 ≤ G 0 ∧ G 0 ≤ 4) (hi : -2147483648 ≤ i ∧ i < 2147483648) (hw : -2147483648 ≤ w ∧ w < 2147483648) : MI (U := (Int → Int) × (Int → Int) × (Int → Int)) l yX6_pay cX6_pay 4 (some .int) (rmN 3 0 0) D cA [.ref (a 0), .int (iI i), .int (iI w)] [mO a G, [(a 1, aJ (cA 0) 325 M)], [(a 3, aJ (cA 0) 1300 V)]] (fun z u => (((0 ≤ i ∧ i < S 1) ∧ 1 ≤ w ∧ w ≤ am S i) ∧ z = am (payP S i w) i ∧ Ag (payP S i w) u.2.1 ∧ RV2 G M V u.1 u.2.2) ∨ ((u.2.1 = M ∧ u.2.2 = V) ∧ ((¬ (0 ≤ i ∧ i < S 1) ∧ RU G u.1 1) ∨ ((0 ≤ i ∧ i < S 1) ∧ w < 1 ∧ RU G u.1 2) ∨ ((0 ≤ i ∧ i < S 1) ∧ 1 ≤ w ∧ am S i < w ∧ RU G u.1 3)))) (fun u => [mO a u.1, [(a 1, aJ (cA 0) 325 u.2.1)], [(a 3, aJ (cA 0) 1300 u.2.2)]]) := by
  refine m_startI pn_X6 rfl (List.forall_mem_cons.mpr ⟨rfl, List.forall_mem_cons.mpr ⟨rfl, List.forall_mem_cons.mpr ⟨rfl, fun _ h => absurd h List.not_mem_nil⟩⟩⟩) (Nat.le_of_ble_eq_true rfl) ?_
  intro K C e1 e2 e3 hin hR
  subst e1 e2 e3
  have hN := hI.2.1
  have hQ := hI.1
  have hM := Ag_h hA hN.1
  have hM0 := hM.1
  have hM1 := hM.2.1
  show J K 0 0 [mO a G, [(a 1, aJ ((kC K) 0) 325 M)], [(a 3, aJ ((kC K) 0) 1300 V)]] [some (.ref (a 0)), some (.int (iI i)), some (.int (iI w)), none] 0 []
  refine j_aload_n C dX6_pay_0 rfl ?_
  refine j_iload_n C dX6_pay_1 rfl ?_
  refine j_perm (pm_3_0_1 _ _ _) ?_
  refine j_callVi C (As := [.int (iI _)]) (c_X6_isPromise _ _ _ _ _ _ _ (by first | assumption | omega) (by first | assumption | omega)) 1 nf_X6_isPromise (jb := 0) rfl rfl wL_X6_160 wI_X6_isPromise wSe_X6_X6_isPromise wIn_X6 wC_X6_isPromise rfl rfl (by decide) dX6_pay_2 (Nat.le_of_ble_eq_true rfl) ⟨Nat.le_of_ble_eq_true rfl, Nat.le_of_ble_eq_true rfl⟩ (fun x2 u2 h2 => ?_)
  refine j_perm (pr_3_0_1 _ _ _) ?_
  have q2 := ite01 h2
  refine j_istn_3 C dX6_pay_5 rfl ?_
  have L16 : ∀ (x1 : Int) (hx1 : x1 = if ¬ (0 ≤ i ∧ i < S 1) then 1 else 0), J K 0 0 [mO a G, [(a 1, aJ ((kC K) 0) 325 M)], [(a 3, aJ ((kC K) 0) 1300 V)]] [some (.ref (a 0)), some (.int (iI i)), some (.int (iI w)), some (.int (iI x2))] 16 [.int (iI x1), .ref (a 0)] := by
    intro x1 hx1
    have hbx1 : x1 = 0 ∨ x1 = 1 := by rw [hx1]; split <;> omega
    have qx1 := ite01 hx1
    have L26 : ∀ (y1 : Int) (hy1 : y1 = if w < 1 then 1 else 0), J K 0 0 [mO a G, [(a 1, aJ ((kC K) 0) 325 M)], [(a 3, aJ ((kC K) 0) 1300 V)]] [some (.ref (a 0)), some (.int (iI i)), some (.int (iI w)), some (.int (iI x2))] 26 [.int (iI y1), .int (iI x1), .ref (a 0)] := by
      intro y1 hy1
      have hby1 : y1 = 0 ∨ y1 = 1 := by rw [hy1]; split <;> omega
      have qy1 := ite01 hy1
      have L49 : ∀ (z1 : Int) (hz1 : z1 = if (0 ≤ i ∧ i < S 1) ∧ am S i < w then 1 else 0), J K 0 0 [mO a G, [(a 1, aJ ((kC K) 0) 325 M)], [(a 3, aJ ((kC K) 0) 1300 V)]] [some (.ref (a 0)), some (.int (iI i)), some (.int (iI w)), some (.int (iI x2))] 49 [.int (iI z1), .int (iI y1), .int (iI x1), .ref (a 0)] := by
        intro z1 hz1
        have hbz1 : z1 = 0 ∨ z1 = 1 := by rw [hz1]; split <;> omega
        have qz1 := ite01 hz1
        refine j_perm (pm_3_0 _ _ _) ?_
        refine j_callVi C (As := [.int (iI _), .int (iI _), .int (iI _)]) (c_X6_goes _ _ _ _ _ _ _ _ (by first | assumption | omega) (by first | assumption | omega) (by first | assumption | omega)) 3 nf_X6_goes (jb := 0) rfl rfl wL_X6_146 wI_X6_goes wSe_X6_X6_goes wIn_X6 wC_X6_goes rfl rfl (by decide) dX6_pay_49 (Nat.le_of_ble_eq_true rfl) ⟨Nat.le_of_ble_eq_true rfl, Nat.le_of_ble_eq_true rfl⟩ (fun x49 u49 h49 => ?_)
        refine j_perm (pr_3_0 _ _ _) ?_
        have q49 := goes3 h49
        refine j_if_ne (tgt := 57) C dX6_pay_52 (by decide) (by omega) (by omega) (fun c52 => ?_) (fun c52 => ?_)
        · have hii : (0 ≤ i ∧ i < S 1) := by omega
          have e := Ag_c hA hii.1 hii.2
          have f := (hI.2.2 i hii.1 hii.2).2.2.2.1
          have hle : w ≤ am S i := by omega
          have hPA := pay_Ag (x := w) hA hii.1 hii.2
          refine j_aload_n C dX6_pay_57 rfl ?_
          refine j_perm (pm_3_0_1_2 _ _ _) ?_
          refine j_callVv C (As := []) (c_X6_saves _ _ _ _ _ _ _ (by rw [show st G 2 u49 0 = G 0 from st_n (by omega)]; exact hc)) 0 nf_X6_saves (jb := 0) rfl rfl wL_X6_150 wI_X6_saves wSe_X6_X6_saves wIn_X6 wC_X6_saves rfl rfl (by decide) dX6_pay_58 (Nat.le_of_ble_eq_true rfl) ⟨Nat.le_of_ble_eq_true rfl, Nat.le_of_ble_eq_true rfl⟩ (fun u58 h58 => ?_)
          refine j_perm (pr_3_0_1_2 _ _ _) ?_
          have hRV := RV2_of (RU_of (G := G) (show u49 = 0 by omega)) h58
          refine j_aload_n C dX6_pay_61 rfl ?_
          refine j_get C 0 0 0 rfl rfl rfl wU_X6 (by decide) wF_X6_7 rfl dX6_pay_62 ?_
          refine j_iload_n C dX6_pay_65 rfl ?_
          refine j_iconst C dX6_pay_66 ?_
          refine j_perm (pm_3 _ _ _) ?_
          refine j_callSi C (As := [.int (iI _), .int (iI _)]) (c_X6_p _ _ _ _ _ ) 2 nf_X6_p.2 wL_X6_79 wS_X6_p wIn_X6 wC_X6_p rfl rfl (by decide) dX6_pay_67 (Nat.le_of_ble_eq_true rfl) ⟨Nat.le_of_ble_eq_true rfl, Nat.le_of_ble_eq_true rfl⟩ (fun x67 u67 h67 => ?_)
          refine j_perm (pr_3 _ _ _) ?_
          subst h67
          refine j_dup2 C dX6_pay_70 rfl rfl ?_
          refine j_iald C 1 0 rfl rfl dX6_pay_71 (by decide) (by omega) (by omega) ?_
          refine j_iload_n C dX6_pay_72 rfl ?_
          refine j_isub C dX6_pay_73 ?_
          refine j_iast_p1 C 0 rfl ar1_ast dX6_pay_74 (by decide) (by omega) (by omega) ?_
          refine j_aload_n C dX6_pay_75 rfl ?_
          refine j_get C 0 0 0 rfl rfl rfl wU_X6 (by decide) wF_X6_7 rfl dX6_pay_76 ?_
          refine j_iload_n C dX6_pay_79 rfl ?_
          refine j_bipush C dX6_pay_80 (by decide) ?_
          refine j_perm (pm_3 _ _ _) ?_
          refine j_callSi C (As := [.int (iI _), .int (iI _)]) (c_X6_p _ _ _ _ _ ) 2 nf_X6_p.2 wL_X6_79 wS_X6_p wIn_X6 wC_X6_p rfl rfl (by decide) dX6_pay_82 (Nat.le_of_ble_eq_true rfl) ⟨Nat.le_of_ble_eq_true rfl, Nat.le_of_ble_eq_true rfl⟩ (fun x82 u82 h82 => ?_)
          refine j_perm (pr_3 _ _ _) ?_
          subst h82
          refine j_dup2 C dX6_pay_85 rfl rfl ?_
          refine j_iald C 1 0 rfl rfl dX6_pay_86 (by decide) (by omega) (by omega) ?_
          refine j_iload_n C dX6_pay_87 rfl ?_
          refine j_iadd C dX6_pay_88 ?_
          refine j_iast_p1 C 0 rfl ar1_ast dX6_pay_89 (by decide) (by omega) (by omega) ?_
          refine j_aload_n C dX6_pay_90 rfl ?_
          refine j_get C 0 0 0 rfl rfl rfl wU_X6 (by decide) wF_X6_7 rfl dX6_pay_91 ?_
          refine j_iconst C dX6_pay_94 ?_
          refine j_dup2 C dX6_pay_95 rfl rfl ?_
          refine j_iald C 1 0 rfl rfl dX6_pay_96 (by decide) (by omega) (by omega) ?_
          refine j_iload_n C dX6_pay_97 rfl ?_
          refine j_iadd C dX6_pay_98 ?_
          refine j_iast_p1 C 0 rfl ar1_ast dX6_pay_99 (by decide) (by omega) (by omega) ?_
          refine j_aload_n C dX6_pay_100 rfl ?_
          refine j_get C 0 0 0 rfl rfl rfl wU_X6 (by decide) wF_X6_7 rfl dX6_pay_101 ?_
          refine j_iload_n C dX6_pay_104 rfl ?_
          refine j_iconst C dX6_pay_105 ?_
          refine j_perm (pm_3 _ _ _) ?_
          refine j_callSi C (As := [.int (iI _), .int (iI _)]) (c_X6_p _ _ _ _ _ ) 2 nf_X6_p.2 wL_X6_79 wS_X6_p wIn_X6 wC_X6_p rfl rfl (by decide) dX6_pay_106 (Nat.le_of_ble_eq_true rfl) ⟨Nat.le_of_ble_eq_true rfl, Nat.le_of_ble_eq_true rfl⟩ (fun x106 u106 h106 => ?_)
          refine j_perm (pr_3 _ _ _) ?_
          subst h106
          refine j_iald C 1 0 rfl rfl dX6_pay_109 (by decide) (by omega) (by omega) ?_
          have hPM : st (st (st M (5 + 8 * i + 2) (M (5 + 8 * i + 2) - w)) (5 + 8 * i + 6) (st M (5 + 8 * i + 2) (M (5 + 8 * i + 2) - w) (5 + 8 * i + 6) + w)) 2 (st (st M (5 + 8 * i + 2) (M (5 + 8 * i + 2) - w)) (5 + 8 * i + 6) (st M (5 + 8 * i + 2) (M (5 + 8 * i + 2) - w) (5 + 8 * i + 6) + w) 2 + w) = payP M i w := by
            unfold payP am pa
            rw [show 5 + 8 * i + 2 = 7 + 8 * i by omega, show 5 + 8 * i + 6 = 11 + 8 * i by omega]
          rw [hPM]
          refine hR (st (st G 2 u49) 0 (if st G 2 u49 0 < 4 then st G 2 u49 0 + 1 else 4), payP M i w, u58) dX6_pay_110 ?_ rfl (Nat.le_of_ble_eq_true rfl) (Nat.le_of_ble_eq_true rfl)
          refine Or.inl ⟨⟨hii, by omega, hle⟩, ?_, hPA, hRV⟩
          have e1 : payP S i w 1 = S 1 := by unfold payP; rw [st_n (by omega), st_n (by omega), st_n (by omega)]
          exact (Ag_c hPA hii.1 (by omega)).2.2.1
        · refine j_iconst C dX6_pay_55 ?_
          refine hR (st G 2 u49, M, V) dX6_pay_56 ?_ rfl (Nat.le_of_ble_eq_true rfl) (Nat.le_of_ble_eq_true rfl)
          refine Or.inr ⟨⟨rfl, rfl⟩, ?_⟩
          rcases q49 with q | q | q | q
          · exact Or.inl ⟨by omega, RU_of q.2.1⟩
          · exact Or.inr (Or.inl ⟨by omega, by omega, RU_of q.2.2.1⟩)
          · exact Or.inr (Or.inr ⟨by omega, by omega, by omega, RU_of q.2.2.2.1⟩)
          · omega
      refine j_iload_n C dX6_pay_26 rfl ?_
      refine j_if_eq (tgt := 48) C dX6_pay_27 (by decide) (by omega) (by omega) (fun c27 => ?_) (fun c27 => ?_)
      · refine j_iconst C dX6_pay_48 ?_
        exact L49 _ (by first | (rw [if_pos (by omega)]; done) | (rw [if_neg (by omega)]; done))
      · have hii : (0 ≤ i ∧ i < S 1) := by omega
        have e := Ag_c hA hii.1 hii.2
        have f := (hI.2.2 i hii.1 hii.2).2.2.2.1
        refine j_iload_n C dX6_pay_30 rfl ?_
        refine j_aload_n C dX6_pay_31 rfl ?_
        refine j_get C 0 0 0 rfl rfl rfl wU_X6 (by decide) wF_X6_7 rfl dX6_pay_32 ?_
        refine j_iload_n C dX6_pay_35 rfl ?_
        refine j_iconst C dX6_pay_36 ?_
        refine j_perm (pm_3 _ _ _) ?_
        refine j_callSi C (As := [.int (iI _), .int (iI _)]) (c_X6_p _ _ _ _ _ ) 2 nf_X6_p.2 wL_X6_79 wS_X6_p wIn_X6 wC_X6_p rfl rfl (by decide) dX6_pay_37 (Nat.le_of_ble_eq_true rfl) ⟨Nat.le_of_ble_eq_true rfl, Nat.le_of_ble_eq_true rfl⟩ (fun x37 u37 h37 => ?_)
        refine j_perm (pr_3 _ _ _) ?_
        subst h37
        refine j_iald C 1 0 rfl rfl dX6_pay_40 (by decide) (by omega) (by omega) ?_
        refine j_icmp_le (tgt := 48) C dX6_pay_41 (by decide) (by omega) (by omega) (by omega) (by omega) (fun c41 => ?_) (fun c41 => ?_)
        · refine j_iconst C dX6_pay_48 ?_
          exact L49 _ (by first | (rw [if_pos (by omega)]; done) | (rw [if_neg (by omega)]; done))
        · refine j_iconst C dX6_pay_44 ?_
          refine j_goto (tgt := 49) C dX6_pay_45 (by decide) ?_
          exact L49 _ (by first | (rw [if_pos (by omega)]; done) | (rw [if_neg (by omega)]; done))
    refine j_iload_n C dX6_pay_16 rfl ?_
    refine j_iconst C dX6_pay_17 ?_
    refine j_icmp_ge (tgt := 25) C dX6_pay_18 (by decide) (by omega) (by omega) (by omega) (by omega) (fun c18 => ?_) (fun c18 => ?_)
    · refine j_iconst C dX6_pay_25 ?_
      exact L26 _ (by first | (rw [if_pos (by omega)]; done) | (rw [if_neg (by omega)]; done))
    · refine j_iconst C dX6_pay_21 ?_
      refine j_goto (tgt := 26) C dX6_pay_22 (by decide) ?_
      exact L26 _ (by first | (rw [if_pos (by omega)]; done) | (rw [if_neg (by omega)]; done))
  refine j_aload_n C dX6_pay_6 rfl ?_
  refine j_iload_n C dX6_pay_7 rfl ?_
  refine j_if_ne (tgt := 15) C dX6_pay_8 (by decide) (by omega) (by omega) (fun c8 => ?_) (fun c8 => ?_)
  · refine j_iconst C dX6_pay_15 ?_
    exact L16 _ (by first | (rw [if_pos (by omega)]; done) | (rw [if_neg (by omega)]; done))
  · refine j_iconst C dX6_pay_11 ?_
    refine j_goto (tgt := 16) C dX6_pay_12 (by decide) ?_
    exact L16 _ (by first | (rw [if_pos (by omega)]; done) | (rw [if_neg (by omega)]; done))
set_option maxHeartbeats 800000 in
set_option maxRecDepth 100000 in
theorem c_X6_isFree (l : Launch) (D : va_G) (cA : Nat → ClassId) (a : Nat → Nat) (G M S : Int → Int) (i : Int) (hI : Inv S) (hA : Ag S M) (hi : (0 ≤ i ∧ i < S 1)) : MI (U := Unit) l yX6_isFree cX6_isFree 2 (some .boolean) (rmN 2 0 0) D cA [.ref (a 0), .int (iI i)] [mO a G, [(a 1, aJ (cA 0) 325 M)]] (fun x _ => x = if di S i = 0 ∧ 0 < am S i then 1 else 0) (fun _ => [mO a G, [(a 1, aJ (cA 0) 325 M)]]) := by
  refine m_startZ pn_X6 rfl (List.forall_mem_cons.mpr ⟨rfl, List.forall_mem_cons.mpr ⟨rfl, fun _ h => absurd h List.not_mem_nil⟩⟩) (Nat.le_of_ble_eq_true rfl) ?_
  intro K C e1 e2 e3 hin hR
  subst e1 e2 e3
  have hN := hI.2.1
  have e := Ag_c hA hi.1 hi.2
  have f := hI.2.2 i hi.1 hi.2
  show J K 0 0 [mO a G, [(a 1, aJ ((kC K) 0) 325 M)]] [some (.ref (a 0)), some (.int (iI i))] 0 []
  refine j_aload_n C dX6_isFree_0 rfl ?_
  refine j_get C 0 0 0 rfl rfl rfl wU_X6 (by decide) wF_X6_7 rfl dX6_isFree_1 ?_
  refine j_iload_n C dX6_isFree_4 rfl ?_
  refine j_iconst C dX6_isFree_5 ?_
  refine j_perm (pm_2 _ _) ?_
  refine j_callSi C (As := [.int (iI _), .int (iI _)]) (c_X6_p _ _ _ _ _ ) 2 nf_X6_p.2 wL_X6_79 wS_X6_p wIn_X6 wC_X6_p rfl rfl (by decide) dX6_isFree_6 (Nat.le_of_ble_eq_true rfl) ⟨Nat.le_of_ble_eq_true rfl, Nat.le_of_ble_eq_true rfl⟩ (fun x6 u6 h6 => ?_)
  refine j_perm (pr_2 _ _) ?_
  subst h6
  refine j_iald C 1 0 rfl rfl dX6_isFree_9 (by decide) (by omega) (by omega) ?_
  refine j_if_ne (tgt := 30) C dX6_isFree_10 (by decide) (by omega) (by omega) (fun c10 => ?_) (fun c10 => ?_)
  · refine j_iconst C dX6_isFree_30 ?_
    exact hR () dX6_isFree_31 (by omega) (by first | (rw [if_pos (by omega)]; done) | (rw [if_neg (by omega)]; done)) rfl (Nat.le_of_ble_eq_true rfl) (Nat.le_of_ble_eq_true rfl)
  · refine j_aload_n C dX6_isFree_13 rfl ?_
    refine j_get C 0 0 0 rfl rfl rfl wU_X6 (by decide) wF_X6_7 rfl dX6_isFree_14 ?_
    refine j_iload_n C dX6_isFree_17 rfl ?_
    refine j_iconst C dX6_isFree_18 ?_
    refine j_perm (pm_2 _ _) ?_
    refine j_callSi C (As := [.int (iI _), .int (iI _)]) (c_X6_p _ _ _ _ _ ) 2 nf_X6_p.2 wL_X6_79 wS_X6_p wIn_X6 wC_X6_p rfl rfl (by decide) dX6_isFree_19 (Nat.le_of_ble_eq_true rfl) ⟨Nat.le_of_ble_eq_true rfl, Nat.le_of_ble_eq_true rfl⟩ (fun x19 u19 h19 => ?_)
    refine j_perm (pr_2 _ _) ?_
    subst h19
    refine j_iald C 1 0 rfl rfl dX6_isFree_22 (by decide) (by omega) (by omega) ?_
    refine j_if_le (tgt := 30) C dX6_isFree_23 (by decide) (by omega) (by omega) (fun c23 => ?_) (fun c23 => ?_)
    · refine j_iconst C dX6_isFree_30 ?_
      exact hR () dX6_isFree_31 (by omega) (by first | (rw [if_pos (by omega)]; done) | (rw [if_neg (by omega)]; done)) rfl (Nat.le_of_ble_eq_true rfl) (Nat.le_of_ble_eq_true rfl)
    · refine j_iconst C dX6_isFree_26 ?_
      refine j_goto (tgt := 31) C dX6_isFree_27 (by decide) ?_
      exact hR () dX6_isFree_31 (by omega) (by first | (rw [if_pos (by omega)]; done) | (rw [if_neg (by omega)]; done)) rfl (Nat.le_of_ble_eq_true rfl) (Nat.le_of_ble_eq_true rfl)
set_option maxHeartbeats 800000 in
set_option maxRecDepth 100000 in
theorem c_X6_dispute (l : Launch) (D : va_G) (cA : Nat → ClassId) (a : Nat → Nat) (G M V R N1 D1 B1 S : Int → Int) (i : Int) (hI : Inv S) (hA : Ag S M) (hc : 0 ≤ G 0 ∧ G 0 ≤ 4) (hi : -2147483648 ≤ i ∧ i < 2147483648) : MI (U := (Int → Int) × (Int → Int) × (Int → Int) × (Int → Int) × (Int → Int) × (Int → Int) × (Int → Int)) l yX6_dispute cX6_dispute 4 (some .int) (rmN 5 0 0) D cA [.ref (a 0), .int (iI i)] [mO a G, [(a 1, aJ (cA 0) 325 M)], [(a 3, aJ (cA 0) 1300 V)], [(a 7, aJ (cA 0) 8 R)], [(a 8, aJ (cA 0) 9 N1)], [(a 5, aJ (cA 0) 49 D1)], [(a 6, aJ (cA 0) 490 B1)]] (fun z u => (((0 ≤ i ∧ i < S 1) ∧ 0 < am S i ∧ di S i = 0) ∧ z = ((RS S).length : Int) - ((RS (st S (9 + 8 * i) 1)).length : Int) ∧ Ag (st S (9 + 8 * i) 1) u.2.1 ∧ RV2 G M V u.1 u.2.2.1) ∨ ((u.2.1 = M ∧ u.2.2.1 = V) ∧ ((¬ (0 ≤ i ∧ i < S 1) ∧ RU G u.1 1) ∨ ((0 ≤ i ∧ i < S 1) ∧ ¬ (0 < am S i ∧ di S i = 0) ∧ RU G u.1 2)))) (fun u => [mO a u.1, [(a 1, aJ (cA 0) 325 u.2.1)], [(a 3, aJ (cA 0) 1300 u.2.2.1)], [(a 7, aJ (cA 0) 8 u.2.2.2.1)], [(a 8, aJ (cA 0) 9 u.2.2.2.2.1)], [(a 5, aJ (cA 0) 49 u.2.2.2.2.2.1)], [(a 6, aJ (cA 0) 490 u.2.2.2.2.2.2)]]) := by
  refine m_startI pn_X6 rfl (List.forall_mem_cons.mpr ⟨rfl, List.forall_mem_cons.mpr ⟨rfl, fun _ h => absurd h List.not_mem_nil⟩⟩) (Nat.le_of_ble_eq_true rfl) ?_
  intro K C e1 e2 e3 hin hR
  subst e1 e2 e3
  have hN := hI.2.1
  have hQ := hI.1
  have hM := Ag_h hA hN.1
  have hM0 := hM.1
  have hM1 := hM.2.1
  have hIM := Ag_Inv hI hA
  show J K 0 0 [mO a G, [(a 1, aJ ((kC K) 0) 325 M)], [(a 3, aJ ((kC K) 0) 1300 V)], [(a 7, aJ ((kC K) 0) 8 R)], [(a 8, aJ ((kC K) 0) 9 N1)], [(a 5, aJ ((kC K) 0) 49 D1)], [(a 6, aJ ((kC K) 0) 490 B1)]] [some (.ref (a 0)), some (.int (iI i)), none, none] 0 []
  refine j_aload_n C dX6_dispute_0 rfl ?_
  refine j_iload_n C dX6_dispute_1 rfl ?_
  refine j_perm (pm_7_0_1 _ _ _ _ _ _ _) ?_
  refine j_callVi C (As := [.int (iI _)]) (c_X6_isPromise _ _ _ _ _ _ _ (by first | assumption | omega) (by first | assumption | omega)) 1 nf_X6_isPromise (jb := 0) rfl rfl wL_X6_160 wI_X6_isPromise wSe_X6_X6_isPromise wIn_X6 wC_X6_isPromise rfl rfl (by decide) dX6_dispute_2 (Nat.le_of_ble_eq_true rfl) ⟨Nat.le_of_ble_eq_true rfl, Nat.le_of_ble_eq_true rfl⟩ (fun x2 u2 h2 => ?_)
  refine j_perm (pr_7_0_1 _ _ _ _ _ _ _) ?_
  have q2 := ite01 h2
  refine j_istn_2 C dX6_dispute_5 rfl ?_
  have L16 : ∀ (x1 : Int) (hx1 : x1 = if ¬ (0 ≤ i ∧ i < S 1) then 1 else 0), J K 0 0 [mO a G, [(a 1, aJ ((kC K) 0) 325 M)], [(a 3, aJ ((kC K) 0) 1300 V)], [(a 7, aJ ((kC K) 0) 8 R)], [(a 8, aJ ((kC K) 0) 9 N1)], [(a 5, aJ ((kC K) 0) 49 D1)], [(a 6, aJ ((kC K) 0) 490 B1)]] [some (.ref (a 0)), some (.int (iI i)), some (.int (iI x2)), none] 16 [.int (iI x1), .ref (a 0)] := by
    intro x1 hx1
    have hbx1 : x1 = 0 ∨ x1 = 1 := by rw [hx1]; split <;> omega
    have qx1 := ite01 hx1
    have L33 : ∀ (y1 : Int) (hy1 : y1 = if (0 ≤ i ∧ i < S 1) ∧ ¬ (0 < am S i ∧ di S i = 0) then 1 else 0), J K 0 0 [mO a G, [(a 1, aJ ((kC K) 0) 325 M)], [(a 3, aJ ((kC K) 0) 1300 V)], [(a 7, aJ ((kC K) 0) 8 R)], [(a 8, aJ ((kC K) 0) 9 N1)], [(a 5, aJ ((kC K) 0) 49 D1)], [(a 6, aJ ((kC K) 0) 490 B1)]] [some (.ref (a 0)), some (.int (iI i)), some (.int (iI x2)), none] 33 [.int (iI y1), .int (iI x1), .ref (a 0)] := by
      intro y1 hy1
      have hby1 : y1 = 0 ∨ y1 = 1 := by rw [hy1]; split <;> omega
      have qy1 := ite01 hy1
      refine j_iconst C dX6_dispute_33 ?_
      refine j_perm (pm_7_0 _ _ _ _ _ _ _) ?_
      refine j_callVi C (As := [.int (iI _), .int (iI _), .int (iI _)]) (c_X6_goes _ _ _ _ _ _ _ _ (by first | assumption | omega) (by first | assumption | omega) (by first | assumption | omega)) 3 nf_X6_goes (jb := 0) rfl rfl wL_X6_146 wI_X6_goes wSe_X6_X6_goes wIn_X6 wC_X6_goes rfl rfl (by decide) dX6_dispute_34 (Nat.le_of_ble_eq_true rfl) ⟨Nat.le_of_ble_eq_true rfl, Nat.le_of_ble_eq_true rfl⟩ (fun x34 u34 h34 => ?_)
      refine j_perm (pr_7_0 _ _ _ _ _ _ _) ?_
      have q34 := goes3 h34
      refine j_if_ne (tgt := 42) C dX6_dispute_37 (by decide) (by omega) (by omega) (fun c37 => ?_) (fun c37 => ?_)
      · have hii : (0 ≤ i ∧ i < S 1) := by omega
        have hfr : 0 < am S i ∧ di S i = 0 := by omega
        have hAS : Ag (st S (9 + 8 * i) 1) (st M (5 + 8 * i + 4) 1) := by rw [show 5 + 8 * i + 4 = 9 + 8 * i by omega]; exact Ag_st hA (by omega) (by omega) (by omega)
        have hIS := Inv_di hI hii.1 (Or.inr rfl : (1 : Int) = 0 ∨ (1 : Int) = 1)
        refine j_aload_n C dX6_dispute_42 rfl ?_
        refine j_aload_n C dX6_dispute_43 rfl ?_
        refine j_get C 0 0 0 rfl rfl rfl wU_X6 (by decide) wF_X6_7 rfl dX6_dispute_44 ?_
        refine j_iconst C dX6_dispute_47 ?_
        refine j_perm (pm_7_0_1_3_4_5_6 _ _ _ _ _ _ _) ?_
        refine j_callVi C (As := [.ref _, .int (iI _)]) (c_X6_countRings _ _ _ _ _ _ _ _ _ _ _ _ (by exact hIM) (by omega)) 2 nf_X6_countRings (jb := 0) rfl rfl wL_X6_166 wI_X6_countRings wSe_X6_X6_countRings wIn_X6 wC_X6_countRings rfl rfl (by decide) dX6_dispute_48 (Nat.le_of_ble_eq_true rfl) ⟨Nat.le_of_ble_eq_true rfl, Nat.le_of_ble_eq_true rfl⟩ (fun x48 u48 h48 => ?_)
        refine j_perm (pr_7_0_1_3_4_5_6 _ _ _ _ _ _ _) ?_
        have hx48 : x48 = ((RS S).length : Int) := by rw [h48, rwO_RS, RS_ag hI hA]
        refine j_istn_3 C dX6_dispute_51 rfl ?_
        refine j_aload_n C dX6_dispute_52 rfl ?_
        refine j_perm (pm_7_0_1_2 _ _ _ _ _ _ _) ?_
        refine j_callVv C (As := []) (c_X6_saves _ _ _ _ _ _ _ (by rw [KG_34 _ _ _ 0 (by omega), show st G 2 u34 0 = G 0 from st_n (by omega)]; exact hc)) 0 nf_X6_saves (jb := 0) rfl rfl wL_X6_150 wI_X6_saves wSe_X6_X6_saves wIn_X6 wC_X6_saves rfl rfl (by decide) dX6_dispute_53 (Nat.le_of_ble_eq_true rfl) ⟨Nat.le_of_ble_eq_true rfl, Nat.le_of_ble_eq_true rfl⟩ (fun u53 h53 => ?_)
        refine j_perm (pr_7_0_1_2 _ _ _ _ _ _ _) ?_
        have hRV := RV2_of (RU_KG (RU_of (G := G) (show u34 = 0 by omega)) (KG_34 _ _ _)) h53
        refine j_aload_n C dX6_dispute_56 rfl ?_
        refine j_get C 0 0 0 rfl rfl rfl wU_X6 (by decide) wF_X6_7 rfl dX6_dispute_57 ?_
        refine j_iload_n C dX6_dispute_60 rfl ?_
        refine j_iconst C dX6_dispute_61 ?_
        refine j_perm (pm_7 _ _ _ _ _ _ _) ?_
        refine j_callSi C (As := [.int (iI _), .int (iI _)]) (c_X6_p _ _ _ _ _ ) 2 nf_X6_p.2 wL_X6_79 wS_X6_p wIn_X6 wC_X6_p rfl rfl (by decide) dX6_dispute_62 (Nat.le_of_ble_eq_true rfl) ⟨Nat.le_of_ble_eq_true rfl, Nat.le_of_ble_eq_true rfl⟩ (fun x62 u62 h62 => ?_)
        refine j_perm (pr_7 _ _ _ _ _ _ _) ?_
        subst h62
        refine j_iconst C dX6_dispute_65 ?_
        refine j_iast_p1 C 0 rfl ar1_ast dX6_dispute_66 (by decide) (by omega) (by omega) ?_
        refine j_iload_n C dX6_dispute_67 rfl ?_
        refine j_aload_n C dX6_dispute_68 rfl ?_
        refine j_aload_n C dX6_dispute_69 rfl ?_
        refine j_get C 0 0 0 rfl rfl rfl wU_X6 (by decide) wF_X6_7 rfl dX6_dispute_70 ?_
        refine j_iconst C dX6_dispute_73 ?_
        refine j_perm (pm_7_0_1_3_4_5_6 _ _ _ _ _ _ _) ?_
        refine j_callVi C (As := [.ref _, .int (iI _)]) (c_X6_countRings _ _ _ _ _ _ _ _ _ _ _ _ (by exact Ag_Inv hIS hAS) (by omega)) 2 nf_X6_countRings (jb := 0) rfl rfl wL_X6_166 wI_X6_countRings wSe_X6_X6_countRings wIn_X6 wC_X6_countRings rfl rfl (by decide) dX6_dispute_74 (Nat.le_of_ble_eq_true rfl) ⟨Nat.le_of_ble_eq_true rfl, Nat.le_of_ble_eq_true rfl⟩ (fun x74 u74 h74 => ?_)
        refine j_perm (pr_7_0_1_3_4_5_6 _ _ _ _ _ _ _) ?_
        have hx74 : x74 = ((RS (st S (9 + 8 * i) 1)).length : Int) := by rw [h74, rwO_RS, RS_ag hIS hAS]
        refine j_isub C dX6_dispute_77 ?_
        refine hR (st (st (st (st (st (st G 2 u34) 3 (M 0)) 4 0) 0 (if (st (st (st G 2 u34) 3 (M 0)) 4 0) 0 < 4 then (st (st (st G 2 u34) 3 (M 0)) 4 0) 0 + 1 else 4)) 3 (st M (5 + 8 * i + 4) 1 0)) 4 0, st M (5 + 8 * i + 4) 1, u53, u74.1, u74.2.1, u74.2.2.1, u74.2.2.2) dX6_dispute_78 ?_ rfl (Nat.le_of_ble_eq_true rfl) (Nat.le_of_ble_eq_true rfl)
        exact Or.inl ⟨⟨hii, hfr⟩, by omega, hAS, RV2_KG hRV (KG_34 _ _ _)⟩
      · refine j_iconst C dX6_dispute_40 ?_
        refine hR (st G 2 u34, M, V, R, N1, D1, B1) dX6_dispute_41 ?_ rfl (Nat.le_of_ble_eq_true rfl) (Nat.le_of_ble_eq_true rfl)
        refine Or.inr ⟨⟨rfl, rfl⟩, ?_⟩
        rcases q34 with q | q | q | q
        · exact Or.inl ⟨by omega, RU_of q.2.1⟩
        · exact Or.inr ⟨by omega, by omega, RU_of q.2.2.1⟩
        · omega
        · omega
    refine j_iload_n C dX6_dispute_16 rfl ?_
    refine j_if_eq (tgt := 32) C dX6_dispute_17 (by decide) (by omega) (by omega) (fun c17 => ?_) (fun c17 => ?_)
    · refine j_iconst C dX6_dispute_32 ?_
      exact L33 _ (by first | (rw [if_pos (by omega)]; done) | (rw [if_neg (by omega)]; done))
    · have hii : (0 ≤ i ∧ i < S 1) := by omega
      refine j_aload_n C dX6_dispute_20 rfl ?_
      refine j_iload_n C dX6_dispute_21 rfl ?_
      refine j_perm (pm_7_0_1 _ _ _ _ _ _ _) ?_
      refine j_callVi C (As := [.int (iI _)]) (c_X6_isFree _ _ _ _ _ _ (S) _ (by first | assumption | omega) (by first | assumption | omega) (by first | assumption | omega)) 1 nf_X6_isFree (jb := 0) rfl rfl wL_X6_163 wI_X6_isFree wSe_X6_X6_isFree wIn_X6 wC_X6_isFree rfl rfl (by decide) dX6_dispute_22 (Nat.le_of_ble_eq_true rfl) ⟨Nat.le_of_ble_eq_true rfl, Nat.le_of_ble_eq_true rfl⟩ (fun x22 u22 h22 => ?_)
      refine j_perm (pr_7_0_1 _ _ _ _ _ _ _) ?_
      have q22 := ite01 h22
      refine j_if_ne (tgt := 32) C dX6_dispute_25 (by decide) (by omega) (by omega) (fun c25 => ?_) (fun c25 => ?_)
      · refine j_iconst C dX6_dispute_32 ?_
        exact L33 _ (by first | (rw [if_pos (by omega)]; done) | (rw [if_neg (by omega)]; done))
      · refine j_iconst C dX6_dispute_28 ?_
        refine j_goto (tgt := 33) C dX6_dispute_29 (by decide) ?_
        exact L33 _ (by first | (rw [if_pos (by omega)]; done) | (rw [if_neg (by omega)]; done))
  refine j_aload_n C dX6_dispute_6 rfl ?_
  refine j_iload_n C dX6_dispute_7 rfl ?_
  refine j_if_ne (tgt := 15) C dX6_dispute_8 (by decide) (by omega) (by omega) (fun c8 => ?_) (fun c8 => ?_)
  · refine j_iconst C dX6_dispute_15 ?_
    exact L16 _ (by first | (rw [if_pos (by omega)]; done) | (rw [if_neg (by omega)]; done))
  · refine j_iconst C dX6_dispute_11 ?_
    refine j_goto (tgt := 16) C dX6_dispute_12 (by decide) ?_
    exact L16 _ (by first | (rw [if_pos (by omega)]; done) | (rw [if_neg (by omega)]; done))
set_option maxHeartbeats 800000 in
set_option maxRecDepth 100000 in
theorem c_X6_settle (l : Launch) (D : va_G) (cA : Nat → ClassId) (a : Nat → Nat) (G M V R N1 D1 B1 S : Int → Int) (i : Int) (hI : Inv S) (hA : Ag S M) (hc : 0 ≤ G 0 ∧ G 0 ≤ 4) (hi : -2147483648 ≤ i ∧ i < 2147483648) : MI (U := (Int → Int) × (Int → Int) × (Int → Int) × (Int → Int) × (Int → Int) × (Int → Int) × (Int → Int)) l yX6_settle cX6_settle 3 (some .int) (rmN 5 0 0) D cA [.ref (a 0), .int (iI i)] [mO a G, [(a 1, aJ (cA 0) 325 M)], [(a 3, aJ (cA 0) 1300 V)], [(a 7, aJ (cA 0) 8 R)], [(a 8, aJ (cA 0) 9 N1)], [(a 5, aJ (cA 0) 49 D1)], [(a 6, aJ (cA 0) 490 B1)]] (fun z u => (((0 ≤ i ∧ i < S 1) ∧ di S i = 1) ∧ z = ((RS (st S (9 + 8 * i) 0)).length : Int) ∧ Ag (st S (9 + 8 * i) 0) u.2.1 ∧ RV2 G M V u.1 u.2.2.1) ∨ ((u.2.1 = M ∧ u.2.2.1 = V) ∧ ((¬ (0 ≤ i ∧ i < S 1) ∧ RU G u.1 1) ∨ ((0 ≤ i ∧ i < S 1) ∧ di S i = 0 ∧ RU G u.1 2)))) (fun u => [mO a u.1, [(a 1, aJ (cA 0) 325 u.2.1)], [(a 3, aJ (cA 0) 1300 u.2.2.1)], [(a 7, aJ (cA 0) 8 u.2.2.2.1)], [(a 8, aJ (cA 0) 9 u.2.2.2.2.1)], [(a 5, aJ (cA 0) 49 u.2.2.2.2.2.1)], [(a 6, aJ (cA 0) 490 u.2.2.2.2.2.2)]]) := by
  refine m_startI pn_X6 rfl (List.forall_mem_cons.mpr ⟨rfl, List.forall_mem_cons.mpr ⟨rfl, fun _ h => absurd h List.not_mem_nil⟩⟩) (Nat.le_of_ble_eq_true rfl) ?_
  intro K C e1 e2 e3 hin hR
  subst e1 e2 e3
  have hN := hI.2.1
  have hQ := hI.1
  have hM := Ag_h hA hN.1
  have hM0 := hM.1
  have hM1 := hM.2.1
  have hIM := Ag_Inv hI hA
  show J K 0 0 [mO a G, [(a 1, aJ ((kC K) 0) 325 M)], [(a 3, aJ ((kC K) 0) 1300 V)], [(a 7, aJ ((kC K) 0) 8 R)], [(a 8, aJ ((kC K) 0) 9 N1)], [(a 5, aJ ((kC K) 0) 49 D1)], [(a 6, aJ ((kC K) 0) 490 B1)]] [some (.ref (a 0)), some (.int (iI i)), none] 0 []
  refine j_aload_n C dX6_settle_0 rfl ?_
  refine j_iload_n C dX6_settle_1 rfl ?_
  refine j_perm (pm_7_0_1 _ _ _ _ _ _ _) ?_
  refine j_callVi C (As := [.int (iI _)]) (c_X6_isPromise _ _ _ _ _ _ _ (by first | assumption | omega) (by first | assumption | omega)) 1 nf_X6_isPromise (jb := 0) rfl rfl wL_X6_160 wI_X6_isPromise wSe_X6_X6_isPromise wIn_X6 wC_X6_isPromise rfl rfl (by decide) dX6_settle_2 (Nat.le_of_ble_eq_true rfl) ⟨Nat.le_of_ble_eq_true rfl, Nat.le_of_ble_eq_true rfl⟩ (fun x2 u2 h2 => ?_)
  refine j_perm (pr_7_0_1 _ _ _ _ _ _ _) ?_
  have q2 := ite01 h2
  refine j_istn_2 C dX6_settle_5 rfl ?_
  have L16 : ∀ (x1 : Int) (hx1 : x1 = if ¬ (0 ≤ i ∧ i < S 1) then 1 else 0), J K 0 0 [mO a G, [(a 1, aJ ((kC K) 0) 325 M)], [(a 3, aJ ((kC K) 0) 1300 V)], [(a 7, aJ ((kC K) 0) 8 R)], [(a 8, aJ ((kC K) 0) 9 N1)], [(a 5, aJ ((kC K) 0) 49 D1)], [(a 6, aJ ((kC K) 0) 490 B1)]] [some (.ref (a 0)), some (.int (iI i)), some (.int (iI x2))] 16 [.int (iI x1), .ref (a 0)] := by
    intro x1 hx1
    have hbx1 : x1 = 0 ∨ x1 = 1 := by rw [hx1]; split <;> omega
    have qx1 := ite01 hx1
    have L38 : ∀ (y1 : Int) (hy1 : y1 = if (0 ≤ i ∧ i < S 1) ∧ di S i = 0 then 1 else 0), J K 0 0 [mO a G, [(a 1, aJ ((kC K) 0) 325 M)], [(a 3, aJ ((kC K) 0) 1300 V)], [(a 7, aJ ((kC K) 0) 8 R)], [(a 8, aJ ((kC K) 0) 9 N1)], [(a 5, aJ ((kC K) 0) 49 D1)], [(a 6, aJ ((kC K) 0) 490 B1)]] [some (.ref (a 0)), some (.int (iI i)), some (.int (iI x2))] 38 [.int (iI y1), .int (iI x1), .ref (a 0)] := by
      intro y1 hy1
      have hby1 : y1 = 0 ∨ y1 = 1 := by rw [hy1]; split <;> omega
      have qy1 := ite01 hy1
      refine j_iconst C dX6_settle_38 ?_
      refine j_perm (pm_7_0 _ _ _ _ _ _ _) ?_
      refine j_callVi C (As := [.int (iI _), .int (iI _), .int (iI _)]) (c_X6_goes _ _ _ _ _ _ _ _ (by first | assumption | omega) (by first | assumption | omega) (by first | assumption | omega)) 3 nf_X6_goes (jb := 0) rfl rfl wL_X6_146 wI_X6_goes wSe_X6_X6_goes wIn_X6 wC_X6_goes rfl rfl (by decide) dX6_settle_39 (Nat.le_of_ble_eq_true rfl) ⟨Nat.le_of_ble_eq_true rfl, Nat.le_of_ble_eq_true rfl⟩ (fun x39 u39 h39 => ?_)
      refine j_perm (pr_7_0 _ _ _ _ _ _ _) ?_
      have q39 := goes3 h39
      refine j_if_ne (tgt := 47) C dX6_settle_42 (by decide) (by omega) (by omega) (fun c42 => ?_) (fun c42 => ?_)
      · have hii : (0 ≤ i ∧ i < S 1) := by omega
        have f := (hI.2.2 i hii.1 hii.2).2.2.2.2.2
        have hAS : Ag (st S (9 + 8 * i) 0) (st M (5 + 8 * i + 4) 0) := by rw [show 5 + 8 * i + 4 = 9 + 8 * i by omega]; exact Ag_st hA (by omega) (by omega) (by omega)
        have hIS := Inv_di hI hii.1 (Or.inl rfl : (0 : Int) = 0 ∨ (0 : Int) = 1)
        refine j_aload_n C dX6_settle_47 rfl ?_
        refine j_perm (pm_7_0_1_2 _ _ _ _ _ _ _) ?_
        refine j_callVv C (As := []) (c_X6_saves _ _ _ _ _ _ _ (by rw [show st G 2 u39 0 = G 0 from st_n (by omega)]; exact hc)) 0 nf_X6_saves (jb := 0) rfl rfl wL_X6_150 wI_X6_saves wSe_X6_X6_saves wIn_X6 wC_X6_saves rfl rfl (by decide) dX6_settle_48 (Nat.le_of_ble_eq_true rfl) ⟨Nat.le_of_ble_eq_true rfl, Nat.le_of_ble_eq_true rfl⟩ (fun u48 h48 => ?_)
        refine j_perm (pr_7_0_1_2 _ _ _ _ _ _ _) ?_
        have hRV := RV2_of (RU_of (G := G) (show u39 = 0 by omega)) h48
        refine j_aload_n C dX6_settle_51 rfl ?_
        refine j_get C 0 0 0 rfl rfl rfl wU_X6 (by decide) wF_X6_7 rfl dX6_settle_52 ?_
        refine j_iload_n C dX6_settle_55 rfl ?_
        refine j_iconst C dX6_settle_56 ?_
        refine j_perm (pm_7 _ _ _ _ _ _ _) ?_
        refine j_callSi C (As := [.int (iI _), .int (iI _)]) (c_X6_p _ _ _ _ _ ) 2 nf_X6_p.2 wL_X6_79 wS_X6_p wIn_X6 wC_X6_p rfl rfl (by decide) dX6_settle_57 (Nat.le_of_ble_eq_true rfl) ⟨Nat.le_of_ble_eq_true rfl, Nat.le_of_ble_eq_true rfl⟩ (fun x57 u57 h57 => ?_)
        refine j_perm (pr_7 _ _ _ _ _ _ _) ?_
        subst h57
        refine j_iconst C dX6_settle_60 ?_
        refine j_iast_p1 C 0 rfl ar1_ast dX6_settle_61 (by decide) (by omega) (by omega) ?_
        refine j_aload_n C dX6_settle_62 rfl ?_
        refine j_aload_n C dX6_settle_63 rfl ?_
        refine j_get C 0 0 0 rfl rfl rfl wU_X6 (by decide) wF_X6_7 rfl dX6_settle_64 ?_
        refine j_iconst C dX6_settle_67 ?_
        refine j_perm (pm_7_0_1_3_4_5_6 _ _ _ _ _ _ _) ?_
        refine j_callVi C (As := [.ref _, .int (iI _)]) (c_X6_countRings _ _ _ _ _ _ _ _ _ _ _ _ (by exact Ag_Inv hIS hAS) (by omega)) 2 nf_X6_countRings (jb := 0) rfl rfl wL_X6_166 wI_X6_countRings wSe_X6_X6_countRings wIn_X6 wC_X6_countRings rfl rfl (by decide) dX6_settle_68 (Nat.le_of_ble_eq_true rfl) ⟨Nat.le_of_ble_eq_true rfl, Nat.le_of_ble_eq_true rfl⟩ (fun x68 u68 h68 => ?_)
        refine j_perm (pr_7_0_1_3_4_5_6 _ _ _ _ _ _ _) ?_
        have hx68 : x68 = ((RS (st S (9 + 8 * i) 0)).length : Int) := by rw [h68, rwO_RS, RS_ag hIS hAS]
        refine hR (st (st (st (st G 2 u39) 0 (if st G 2 u39 0 < 4 then st G 2 u39 0 + 1 else 4)) 3 (st M (5 + 8 * i + 4) 0 0)) 4 0, st M (5 + 8 * i + 4) 0, u48, u68.1, u68.2.1, u68.2.2.1, u68.2.2.2) dX6_settle_71 ?_ rfl (Nat.le_of_ble_eq_true rfl) (Nat.le_of_ble_eq_true rfl)
        exact Or.inl ⟨⟨hii, by omega⟩, hx68, hAS, RV2_KG hRV (KG_34 _ _ _)⟩
      · refine j_iconst C dX6_settle_45 ?_
        refine hR (st G 2 u39, M, V, R, N1, D1, B1) dX6_settle_46 ?_ rfl (Nat.le_of_ble_eq_true rfl) (Nat.le_of_ble_eq_true rfl)
        refine Or.inr ⟨⟨rfl, rfl⟩, ?_⟩
        rcases q39 with q | q | q | q
        · exact Or.inl ⟨by omega, RU_of q.2.1⟩
        · exact Or.inr ⟨by omega, by omega, RU_of q.2.2.1⟩
        · omega
        · omega
    refine j_iload_n C dX6_settle_16 rfl ?_
    refine j_if_eq (tgt := 37) C dX6_settle_17 (by decide) (by omega) (by omega) (fun c17 => ?_) (fun c17 => ?_)
    · refine j_iconst C dX6_settle_37 ?_
      exact L38 _ (by first | (rw [if_pos (by omega)]; done) | (rw [if_neg (by omega)]; done))
    · have hii : (0 ≤ i ∧ i < S 1) := by omega
      have e := Ag_c hA hii.1 hii.2
      have f := (hI.2.2 i hii.1 hii.2).2.2.2.2.2
      refine j_aload_n C dX6_settle_20 rfl ?_
      refine j_get C 0 0 0 rfl rfl rfl wU_X6 (by decide) wF_X6_7 rfl dX6_settle_21 ?_
      refine j_iload_n C dX6_settle_24 rfl ?_
      refine j_iconst C dX6_settle_25 ?_
      refine j_perm (pm_7 _ _ _ _ _ _ _) ?_
      refine j_callSi C (As := [.int (iI _), .int (iI _)]) (c_X6_p _ _ _ _ _ ) 2 nf_X6_p.2 wL_X6_79 wS_X6_p wIn_X6 wC_X6_p rfl rfl (by decide) dX6_settle_26 (Nat.le_of_ble_eq_true rfl) ⟨Nat.le_of_ble_eq_true rfl, Nat.le_of_ble_eq_true rfl⟩ (fun x26 u26 h26 => ?_)
      refine j_perm (pr_7 _ _ _ _ _ _ _) ?_
      subst h26
      refine j_iald C 1 0 rfl rfl dX6_settle_29 (by decide) (by omega) (by omega) ?_
      refine j_if_ne (tgt := 37) C dX6_settle_30 (by decide) (by omega) (by omega) (fun c30 => ?_) (fun c30 => ?_)
      · refine j_iconst C dX6_settle_37 ?_
        exact L38 _ (by first | (rw [if_pos (by omega)]; done) | (rw [if_neg (by omega)]; done))
      · refine j_iconst C dX6_settle_33 ?_
        refine j_goto (tgt := 38) C dX6_settle_34 (by decide) ?_
        exact L38 _ (by first | (rw [if_pos (by omega)]; done) | (rw [if_neg (by omega)]; done))
  refine j_aload_n C dX6_settle_6 rfl ?_
  refine j_iload_n C dX6_settle_7 rfl ?_
  refine j_if_ne (tgt := 15) C dX6_settle_8 (by decide) (by omega) (by omega) (fun c8 => ?_) (fun c8 => ?_)
  · refine j_iconst C dX6_settle_15 ?_
    exact L16 _ (by first | (rw [if_pos (by omega)]; done) | (rw [if_neg (by omega)]; done))
  · refine j_iconst C dX6_settle_11 ?_
    refine j_goto (tgt := 16) C dX6_settle_12 (by decide) ?_
    exact L16 _ (by first | (rw [if_pos (by omega)]; done) | (rw [if_neg (by omega)]; done))
