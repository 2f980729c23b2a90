theorem pm_2 (B0 B1 : va_W) : [B0, B1].Perm ([] ++ [B0, B1]) := List.Perm.refl _
theorem pr_2 (B0 B1 : va_W) : ([] ++ [B0, B1]).Perm [B0, B1] := (pm_2 B0 B1).symm
theorem pm_2_0_1 (B0 B1 : va_W) : [B0, B1].Perm ([B0, B1] ++ []) := List.Perm.trans (List.Perm.refl _) (List.Perm.cons _ (List.Perm.refl _))
theorem pr_2_0_1 (B0 B1 : va_W) : ([B0, B1] ++ []).Perm [B0, B1] := (pm_2_0_1 B0 B1).symm
theorem pm_7_0_5 (B0 B1 B2 B3 B4 B5 B6 : va_W) : [B0, B1, B2, B3, B4, B5, B6].Perm ([B0, B5] ++ [B1, B2, B3, B4, B6]) := List.Perm.trans (List.Perm.refl _) (List.Perm.cons _ (List.perm_middle (l₁ := [B1, B2, B3, B4]) (a := B5) (l₂ := [B6])))
theorem pr_7_0_5 (B0 B1 B2 B3 B4 B5 B6 : va_W) : ([B0, B5] ++ [B1, B2, B3, B4, B6]).Perm [B0, B1, B2, B3, B4, B5, B6] := (pm_7_0_5 B0 B1 B2 B3 B4 B5 B6).symm
set_option maxHeartbeats 4000000 in
set_option maxRecDepth 100000 in
theorem c_X4_partyAt (l : Launch) (D : va_G) (cA : Nat → ClassId) (r d : Nat → Nat) (z : Int) (X F Nx f S : Int → Int) (i k : Int) (hI : Inv S) (hF : Fnd S X F Nx f z) (hi : 0 ≤ i ∧ i < z) (hk : 0 ≤ k ∧ k < 7) : MI (U := Unit) l yX4_partyAt cX4_partyAt 3 (some .int) (rmN 3 0 0) D cA [.ref (r 0), .int (iI i), .int (iI k)] [rgO r (d 0) z, [(r 1, aJ (cA 0) 2365 f)]] (fun x _ => x = ((RS S).getD i.toNat []).getD k.toNat (-1)) (fun _ => [rgO r (d 0) z, [(r 1, aJ (cA 0) 2365 f)]]) := by
  refine m_startI pn_X4 rfl (List.forall_mem_cons.mpr ⟨rfl, List.forall_mem_cons.mpr ⟨rfl, List.forall_mem_cons.mpr ⟨rfl, fun _ h => absurd h List.not_mem_nil⟩⟩⟩) (Nat.le_of_ble_eq_true rfl) ?_
  intro K C e1 e2 e3 hin hR
  subst e1 e2 e3
  have hz := hF.2.1
  have hlen := RS_len hI
  have hpr := RS_get (S := S) hi.1 (by rw [hz] at hi; exact hi.2)
  have hrep := hF.2.2 i hi.1 hi.2
  show J K 0 0 [rgO r (d 0) z, [(r 1, aJ ((kC K) 0) 2365 f)]] [some (.ref (r 0)), some (.int (iI i)), some (.int (iI k))] 0 []
  refine j_aload_n C dX4_partyAt_0 rfl ?_
  refine j_iload_n C dX4_partyAt_1 rfl ?_
  refine j_perm (pm_2_0_1 _ _) ?_
  refine j_callVi C (As := [.int (iI _)]) (c_X4_rowAt _ _ _ _ _ _ _ _ (by first | assumption | omega) (by first | assumption | omega)) 1 nf_X4_rowAt (jb := 0) rfl rfl wL_X4_54 wI_X4_rowAt wSe_X4_X4_rowAt wIn_X4 wC_X4_rowAt rfl rfl (by decide) dX4_partyAt_2 (Nat.le_of_ble_eq_true rfl) ⟨Nat.le_of_ble_eq_true rfl, Nat.le_of_ble_eq_true rfl⟩ (fun x2 u2 h2 => ?_)
  refine j_perm (pr_2_0_1 _ _) ?_
  refine j_iload_n C dX4_partyAt_5 rfl ?_
  refine j_perm (pm_2 _ _) ?_
  refine j_callSi C (As := [.int (iI _), .int (iI _)]) (c_X4_partyIn _ _ _ _ _ (((RS S).getD i.toNat [])) (by rw [h2]; exact hrep) (by exact hpr.1.2.2.1) (by exact hpr.1.2.1) (by first | assumption | omega)) 2 nf_X4_partyIn.2 wL_X4_42 wS_X4_partyIn wIn_X4 wC_X4_partyIn rfl rfl (by decide) dX4_partyAt_6 (Nat.le_of_ble_eq_true rfl) ⟨Nat.le_of_ble_eq_true rfl, Nat.le_of_ble_eq_true rfl⟩ (fun x6 u6 h6 => ?_)
  refine j_perm (pr_2 _ _) ?_
  exact hR () dX4_partyAt_9 (by first | trivial | omega | rfl) rfl (Nat.le_of_ble_eq_true rfl) (Nat.le_of_ble_eq_true rfl)
set_option maxHeartbeats 4000000 in
set_option maxRecDepth 100000 in
theorem c_X4_roomAt (l : Launch) (D : va_G) (cA : Nat → ClassId) (r d : Nat → Nat) (z : Int) (X F Nx f S : Int → Int) (i : Int) (hI : Inv S) (hF : Fnd S X F Nx f z) (hi : 0 ≤ i ∧ i < z) : MI (U := Unit) l yX4_roomAt cX4_roomAt 6 (some .int) (rmN 3 0 0) D cA [.ref (r 0), .int (iI i)] [rgO r (d 0) z, dbO d, [(d 1, aJ (cA 0) 49 X)], [(d 2, aJ (cA 0) 49 F)], [(d 3, aJ (cA 0) 40 Nx)], [(r 1, aJ (cA 0) 2365 f)]] (fun x _ => x = room S ((RS S).getD i.toNat [])) (fun _ => [rgO r (d 0) z, dbO d, [(d 1, aJ (cA 0) 49 X)], [(d 2, aJ (cA 0) 49 F)], [(d 3, aJ (cA 0) 40 Nx)], [(r 1, aJ (cA 0) 2365 f)]]) := by
  refine m_startI pn_X4 rfl (List.forall_mem_cons.mpr ⟨rfl, List.forall_mem_cons.mpr ⟨rfl, fun _ h => absurd h List.not_mem_nil⟩⟩) (Nat.le_of_ble_eq_true rfl) ?_
  intro K C e1 e2 e3 hin hR
  subst e1 e2 e3
  have hz := hF.2.1
  have hlen := RS_len hI
  have hpr := RS_get (S := S) hi.1 (by rw [hz] at hi; exact hi.2)
  have hrep := hF.2.2 i hi.1 hi.2
  have hps := prs_len ((RS S).getD i.toNat [])
  have hpl := hpr.1.2.1
  have hpi := prs_in hpr.1
  have hpp := hpr.2
  have hne := prs_ne hpr.1
  have hrb := room_bd hI hpr
  obtain ⟨Rr, hRr⟩ : ∃ z, z = ((RS S).getD i.toNat []) := ⟨_, rfl⟩
  rw [← hRr] at hpr hrep hps hpl hpi hpp hne hrb
  show J K 0 0 [rgO r (d 0) z, dbO d, [(d 1, aJ ((kC K) 0) 49 X)], [(d 2, aJ ((kC K) 0) 49 F)], [(d 3, aJ ((kC K) 0) 40 Nx)], [(r 1, aJ ((kC K) 0) 2365 f)]] [some (.ref (r 0)), some (.int (iI i)), none, none, none, none] 0 []
  refine j_aload_n C dX4_roomAt_0 rfl ?_
  refine j_iload_n C dX4_roomAt_1 rfl ?_
  refine j_perm (pm_6_0_5 _ _ _ _ _ _) ?_
  refine j_callVi C (As := [.int (iI _)]) (c_X4_rowAt _ _ _ _ _ _ _ _ (by first | assumption | omega) (by first | assumption | omega)) 1 nf_X4_rowAt (jb := 0) rfl rfl wL_X4_54 wI_X4_rowAt wSe_X4_X4_rowAt wIn_X4 wC_X4_rowAt rfl rfl (by decide) dX4_roomAt_2 (Nat.le_of_ble_eq_true rfl) ⟨Nat.le_of_ble_eq_true rfl, Nat.le_of_ble_eq_true rfl⟩ (fun x2 u2 h2 => ?_)
  refine j_perm (pr_6_0_5 _ _ _ _ _ _) ?_
  have hrw := h2
  refine j_istn_2 C dX4_roomAt_5 rfl ?_
  refine j_aload_n C dX4_roomAt_6 rfl ?_
  refine j_get C 0 0 0 rfl rfl rfl wU_X4 (by decide) wF_X4_14 rfl dX4_roomAt_7 ?_
  refine j_iload_n C dX4_roomAt_10 rfl ?_
  refine j_iconst C dX4_roomAt_11 ?_
  refine j_perm (pm_6 _ _ _ _ _ _) ?_
  refine j_callSi C (As := [.int (iI _), .int (iI _)]) (c_X4_pairIn _ _ _ _ _ (Rr) (by rw [hrw]; exact hrep) (by exact hpr.1) (by first | assumption | omega)) 2 nf_X4_pairIn.2 wL_X4_57 wS_X4_pairIn wIn_X4 wC_X4_pairIn rfl rfl (by decide) dX4_roomAt_12 (Nat.le_of_ble_eq_true rfl) ⟨Nat.le_of_ble_eq_true rfl, Nat.le_of_ble_eq_true rfl⟩ (fun x12 u12 h12 => ?_)
  refine j_perm (pr_6 _ _ _ _ _ _) ?_
  have hb12 : -1 ≤ x12 ∧ x12 < 49 := by rw [h12]; by_cases q : (0 : Int).toNat < (prs Rr).length; (have := hpi _ (getD_mem (z := -1) q); omega); (rw [getD_out (by omega)]; omega)
  refine j_perm (pm_6_1_2_3_4 _ _ _ _ _ _) ?_
  refine j_callVi C (As := [.int (iI _)]) (c_X1_sumOf _ _ _ _ _ _ _ _ (by first | assumption | omega)) 1 nf_X1_sumOf (jb := 0) rfl rfl wL_X4_46 wI_X1_sumOf wSe_X1_X1_sumOf wIn_X1 wC_X1_sumOf rfl rfl (by decide) dX4_roomAt_15 (Nat.le_of_ble_eq_true rfl) ⟨Nat.le_of_ble_eq_true rfl, Nat.le_of_ble_eq_true rfl⟩ (fun x15 u15 h15 => ?_)
  refine j_perm (pr_6_1_2_3_4 _ _ _ _ _ _) ?_
  have hp0 : 0 < (prs Rr).length := List.length_pos_iff.mpr hne
  have hm0 := getD_mem (z := -1) hp0
  have h120 : x12 = (prs Rr).getD 0 (-1) := h12
  have h15b : x15 = dQ S ((prs Rr).getD 0 (-1)) := by rw [h15, h120, if_pos (hpi _ hm0), Db_sum hI hF.1 (hpi _ hm0).1 (hpi _ hm0).2]
  have hq0 := dQ_bd hI ((prs Rr).getD 0 (-1))
  refine j_istn_3 C dX4_roomAt_18 rfl ?_
  refine j_iconst C dX4_roomAt_19 ?_
  refine j_ist_4 C dX4_roomAt_20 rfl ?_
  have L22 : ∀ (fuel : Nat) (k m : Int) (hk : 1 ≤ k ∧ k ≤ 7) (hmb : 0 ≤ m ∧ m ≤ 40000) (hm : ((prs Rr).drop k.toNat).foldl (fun m x => min m (dQ S x)) m = room S Rr) (hf22 : (7 - k).toNat < fuel), J K 0 0 [rgO r (d 0) z, dbO d, [(d 1, aJ ((kC K) 0) 49 X)], [(d 2, aJ ((kC K) 0) 49 F)], [(d 3, aJ ((kC K) 0) 40 Nx)], [(r 1, aJ ((kC K) 0) 2365 f)]] [some (.ref (r 0)), some (.int (iI i)), some (.int (iI x2)), some (.int (iI m)), some (.int (iI k)), none] 22 [] := by
    intro fuel
    induction fuel with
    | zero => intro k m hk hmb hm hf22; exact absurd hf22 (Nat.not_lt_zero _)
    | succ fuel ih22 =>
      intro k m hk hmb hm hf22
      refine j_iload C dX4_roomAt_22 rfl ?_
      refine j_bipush C dX4_roomAt_24 (by decide) ?_
      refine j_icmp_ge (tgt := 63) C dX4_roomAt_26 (by decide) (by omega) (by omega) (by omega) (by omega) (fun c26 => ?_) (fun c26 => ?_)
      · refine j_iload_n C dX4_roomAt_63 rfl ?_
        refine hR () dX4_roomAt_64 ?_ rfl (Nat.le_of_ble_eq_true rfl) (Nat.le_of_ble_eq_true rfl)
        show m = _
        rw [← hRr, ← hm, drop_out (by omega)]
        rfl
      · refine j_iload_n C dX4_roomAt_29 rfl ?_
        refine j_iload C dX4_roomAt_30 rfl ?_
        refine j_perm (pm_6 _ _ _ _ _ _) ?_
        refine j_callSi C (As := [.int (iI _), .int (iI _)]) (c_X4_pairIn _ _ _ _ _ (Rr) (by rw [hrw]; exact hrep) (by exact hpr.1) (by first | assumption | omega)) 2 nf_X4_pairIn.2 wL_X4_57 wS_X4_pairIn wIn_X4 wC_X4_pairIn rfl rfl (by decide) dX4_roomAt_32 (Nat.le_of_ble_eq_true rfl) ⟨Nat.le_of_ble_eq_true rfl, Nat.le_of_ble_eq_true rfl⟩ (fun x32 u32 h32 => ?_)
        refine j_perm (pr_6 _ _ _ _ _ _) ?_
        have hb32 : -1 ≤ x32 ∧ x32 < 49 := by rw [h32]; by_cases q : (k).toNat < (prs Rr).length; (have := hpi _ (getD_mem (z := -1) q); omega); (rw [getD_out (by omega)]; omega)
        refine j_ist_5 C dX4_roomAt_35 rfl ?_
        refine j_iload C dX4_roomAt_37 rfl ?_
        refine j_iconst C dX4_roomAt_39 ?_
        refine j_icmp_eq (tgt := 57) C dX4_roomAt_40 (by decide) (by omega) (by omega) (by omega) (by omega) (fun c40 => ?_) (fun c40 => ?_)
        · refine j_iinc_4 C dX4_roomAt_57 rfl ?_
          refine j_goto (tgt := 22) C dX4_roomAt_60 (by decide) ?_
          exact j_lle (lv' := [_, _, _, _, _, none]) ⟨Or.inr rfl, ⟨Or.inr rfl, ⟨Or.inr rfl, ⟨Or.inr rfl, ⟨Or.inr rfl, ⟨Or.inl rfl, trivial⟩⟩⟩⟩⟩⟩ (ih22 _ _ (by omega) (by omega) (by first | (rw [← hm, foldl_drop hkl, show (k + 1).toNat = k.toNat + 1 by omega, show z53 = min m (dQ S ((prs Rr).getD k.toNat (-1))) by omega]) | (rw [← hm, drop_out (k := k.toNat) (by apply Classical.byContradiction; intro q; have := hpi _ (getD_mem (z := -1) (show k.toNat < (prs Rr).length by omega)); omega), drop_out (k := (k + 1).toNat) (by apply Classical.byContradiction; intro q; have := hpi _ (getD_mem (z := -1) (show k.toNat < (prs Rr).length by omega)); omega)])) (by omega))
        · refine j_iload_n C dX4_roomAt_43 rfl ?_
          refine j_aload_n C dX4_roomAt_44 rfl ?_
          refine j_get C 0 0 0 rfl rfl rfl wU_X4 (by decide) wF_X4_14 rfl dX4_roomAt_45 ?_
          refine j_iload C dX4_roomAt_48 rfl ?_
          refine j_perm (pm_6_1_2_3_4 _ _ _ _ _ _) ?_
          refine j_callVi C (As := [.int (iI _)]) (c_X1_sumOf _ _ _ _ _ _ _ _ (by first | assumption | omega)) 1 nf_X1_sumOf (jb := 0) rfl rfl wL_X4_46 wI_X1_sumOf wSe_X1_X1_sumOf wIn_X1 wC_X1_sumOf rfl rfl (by decide) dX4_roomAt_50 (Nat.le_of_ble_eq_true rfl) ⟨Nat.le_of_ble_eq_true rfl, Nat.le_of_ble_eq_true rfl⟩ (fun x50 u50 h50 => ?_)
          refine j_perm (pr_6_1_2_3_4 _ _ _ _ _ _) ?_
          have hkl : k.toNat < (prs Rr).length := by (apply Classical.byContradiction; intro q; have := getD_out (r := prs Rr) (k := k.toNat) (z := -1) (by omega); omega)
          have hmk := hpi _ (getD_mem (z := -1) hkl)
          have h50b : x50 = dQ S ((prs Rr).getD k.toNat (-1)) := by rw [h50, h32, if_pos hmk, Db_sum hI hF.1 hmk.1 hmk.2]
          have hqk := dQ_bd hI ((prs Rr).getD k.toNat (-1))
          refine j_mmin C rfl wL_X4_60 wS_J9_min_7cf53 wIn_J9 wC_J9_min_7cf53 ⟨by decide, Nat.le_of_ble_eq_true rfl, by decide, by decide⟩ dX4_roomAt_53 (by omega) (by omega) (by omega) (by omega) (fun z53 hz53 => ?_)
          refine j_istn_3 C dX4_roomAt_56 rfl ?_
          refine j_iinc_4 C dX4_roomAt_57 rfl ?_
          refine j_goto (tgt := 22) C dX4_roomAt_60 (by decide) ?_
          exact j_lle (lv' := [_, _, _, _, _, none]) ⟨Or.inr rfl, ⟨Or.inr rfl, ⟨Or.inr rfl, ⟨Or.inr rfl, ⟨Or.inr rfl, ⟨Or.inl rfl, trivial⟩⟩⟩⟩⟩⟩ (ih22 _ _ (by omega) (by omega) (by first | (rw [← hm, foldl_drop hkl, show (k + 1).toNat = k.toNat + 1 by omega, show z53 = min m (dQ S ((prs Rr).getD k.toNat (-1))) by omega]) | (rw [← hm, drop_out (k := k.toNat) (by apply Classical.byContradiction; intro q; have := hpi _ (getD_mem (z := -1) (show k.toNat < (prs Rr).length by omega)); omega), drop_out (k := (k + 1).toNat) (by apply Classical.byContradiction; intro q; have := hpi _ (getD_mem (z := -1) (show k.toNat < (prs Rr).length by omega)); omega)])) (by omega))
  exact L22 _ _ _ (by omega) (by omega) (by rw [h15b]; exact rmC_start hne) (Nat.lt_succ_self _)
set_option maxHeartbeats 4000000 in
set_option maxRecDepth 100000 in
theorem c_X4_savingAt (l : Launch) (D : va_G) (cA : Nat → ClassId) (r d b : Nat → Nat) (z : Int) (X F Nx f S : Int → Int) (i part : Int) (hI : Inv S) (hF : Fnd S X F Nx f z) (hi : 0 ≤ i ∧ i < z) (hpa : 0 ≤ part ∧ part ≤ 40000) : MI (U := Unit) l yX4_savingAt cX4_savingAt 7 (some .int) (rmN 4 0 0) D cA [.ref (r 0), .ref (b 0), .int (iI i), .int (iI part)] [rgO r (d 0) z, dbO d, [(d 1, aJ (cA 0) 49 X)], [(d 2, aJ (cA 0) 49 F)], [(d 3, aJ (cA 0) 40 Nx)], [(r 1, aJ (cA 0) 2365 f)], bk cA b S] (fun x _ => x = savP S ((RS S).getD i.toNat []) part) (fun _ => [rgO r (d 0) z, dbO d, [(d 1, aJ (cA 0) 49 X)], [(d 2, aJ (cA 0) 49 F)], [(d 3, aJ (cA 0) 40 Nx)], [(r 1, aJ (cA 0) 2365 f)], bk cA b S]) := by
  refine m_startI pn_X4 rfl (List.forall_mem_cons.mpr ⟨rfl, List.forall_mem_cons.mpr ⟨rfl, List.forall_mem_cons.mpr ⟨rfl, List.forall_mem_cons.mpr ⟨rfl, fun _ h => absurd h List.not_mem_nil⟩⟩⟩⟩) (Nat.le_of_ble_eq_true rfl) ?_
  intro K C e1 e2 e3 hin hR
  subst e1 e2 e3
  have hz := hF.2.1
  have hlen := RS_len hI
  have hpr := RS_get (S := S) hi.1 (by rw [hz] at hi; exact hi.2)
  have hrep := hF.2.2 i hi.1 hi.2
  have hps := prs_len ((RS S).getD i.toNat [])
  have hpl := hpr.1.2.1
  have hpi := prs_in hpr.1
  have hpp := hpr.2
  have hne := prs_ne hpr.1
  have hrb := room_bd hI hpr
  obtain ⟨Rr, hRr⟩ : ∃ z, z = ((RS S).getD i.toNat []) := ⟨_, rfl⟩
  rw [← hRr] at hpr hrep hps hpl hpi hpp hne hrb
  show J K 0 0 [rgO r (d 0) z, dbO d, [(d 1, aJ ((kC K) 0) 49 X)], [(d 2, aJ ((kC K) 0) 49 F)], [(d 3, aJ ((kC K) 0) 40 Nx)], [(r 1, aJ ((kC K) 0) 2365 f)], bk (kC K) b S] [some (.ref (r 0)), some (.ref (b 0)), some (.int (iI i)), some (.int (iI part)), none, none, none] 0 []
  refine j_aload_n C dX4_savingAt_0 rfl ?_
  refine j_iload_n C dX4_savingAt_1 rfl ?_
  refine j_perm (pm_7_0_5 _ _ _ _ _ _ _) ?_
  refine j_callVi C (As := [.int (iI _)]) (c_X4_rowAt _ _ _ _ _ _ _ _ (by first | assumption | omega) (by first | assumption | omega)) 1 nf_X4_rowAt (jb := 0) rfl rfl wL_X4_54 wI_X4_rowAt wSe_X4_X4_rowAt wIn_X4 wC_X4_rowAt rfl rfl (by decide) dX4_savingAt_2 (Nat.le_of_ble_eq_true rfl) ⟨Nat.le_of_ble_eq_true rfl, Nat.le_of_ble_eq_true rfl⟩ (fun x2 u2 h2 => ?_)
  refine j_perm (pr_7_0_5 _ _ _ _ _ _ _) ?_
  have hrw := h2
  refine j_ist_4 C dX4_savingAt_5 rfl ?_
  refine j_iconst C dX4_savingAt_7 ?_
  refine j_ist_5 C dX4_savingAt_8 rfl ?_
  refine j_iconst C dX4_savingAt_10 ?_
  refine j_ist_6 C dX4_savingAt_11 rfl ?_
  have L13 : ∀ (fuel : Nat) (k c : Int) (hk : 0 ≤ k ∧ k ≤ 7) (hc : c + sumL (fun q => cQ S q part) ((prs Rr).drop k.toNat) = savP S Rr part) (hf13 : (7 - k).toNat < fuel), J K 0 0 [rgO r (d 0) z, dbO d, [(d 1, aJ ((kC K) 0) 49 X)], [(d 2, aJ ((kC K) 0) 49 F)], [(d 3, aJ ((kC K) 0) 40 Nx)], [(r 1, aJ ((kC K) 0) 2365 f)], bk (kC K) b S] [some (.ref (r 0)), some (.ref (b 0)), some (.int (iI i)), some (.int (iI part)), some (.int (iI x2)), some (.int (iI c)), some (.int (iI k))] 13 [] := by
    intro fuel
    induction fuel with
    | zero => intro k c hk hc hf13; exact absurd hf13 (Nat.not_lt_zero _)
    | succ fuel ih13 =>
      intro k c hk hc hf13
      refine j_iload C dX4_savingAt_13 rfl ?_
      refine j_bipush C dX4_savingAt_15 (by decide) ?_
      refine j_icmp_ge (tgt := 47) C dX4_savingAt_17 (by decide) (by omega) (by omega) (by omega) (by omega) (fun c17 => ?_) (fun c17 => ?_)
      · refine j_iload C dX4_savingAt_47 rfl ?_
        refine hR () dX4_savingAt_49 ?_ rfl (Nat.le_of_ble_eq_true rfl) (Nat.le_of_ble_eq_true rfl)
        show c = _
        rw [← hRr, ← hc, drop_out (by omega)]
        exact (Int.add_zero c).symm
      · refine j_iload C dX4_savingAt_20 rfl ?_
        refine j_aload_n C dX4_savingAt_22 rfl ?_
        refine j_get C 0 0 0 rfl rfl rfl wU_X4 (by decide) wF_X4_14 rfl dX4_savingAt_23 ?_
        refine j_aload_n C dX4_savingAt_26 rfl ?_
        refine j_iload C dX4_savingAt_27 rfl ?_
        refine j_iload C dX4_savingAt_29 rfl ?_
        refine j_perm (pm_7 _ _ _ _ _ _ _) ?_
        refine j_callSi C (As := [.int (iI _), .int (iI _)]) (c_X4_pairIn _ _ _ _ _ (Rr) (by rw [hrw]; exact hrep) (by exact hpr.1) (by first | assumption | omega)) 2 nf_X4_pairIn.2 wL_X4_57 wS_X4_pairIn wIn_X4 wC_X4_pairIn rfl rfl (by decide) dX4_savingAt_31 (Nat.le_of_ble_eq_true rfl) ⟨Nat.le_of_ble_eq_true rfl, Nat.le_of_ble_eq_true rfl⟩ (fun x31 u31 h31 => ?_)
        refine j_perm (pr_7 _ _ _ _ _ _ _) ?_
        have hb31 : -1 ≤ x31 ∧ x31 < 49 := by rw [h31]; by_cases q : (k).toNat < (prs Rr).length; (have := hpi _ (getD_mem (z := -1) q); omega); (rw [getD_out (by omega)]; omega)
        refine j_iload_n C dX4_savingAt_34 rfl ?_
        refine j_perm (pm_7_1_2_3_4_6 _ _ _ _ _ _ _) ?_
        refine j_callVi C (As := [.ref _, .int (iI _), .int (iI _)]) (c_X1_costOfPart _ _ _ _ _ _ _ _ _ _ _ (by first | assumption | omega) (by exact hF.1) (by first | assumption | omega) (by first | assumption | omega)) 3 nf_X1_costOfPart (jb := 0) rfl rfl wL_X4_65 wI_X1_costOfPart wSe_X1_X1_costOfPart wIn_X1 wC_X1_costOfPart rfl rfl (by decide) dX4_savingAt_35 (Nat.le_of_ble_eq_true rfl) ⟨Nat.le_of_ble_eq_true rfl, Nat.le_of_ble_eq_true rfl⟩ (fun x35 u35 h35 => ?_)
        refine j_perm (pr_7_1_2_3_4_6 _ _ _ _ _ _ _) ?_
        refine j_iadd C dX4_savingAt_38 ?_
        refine j_ist_5 C dX4_savingAt_39 rfl ?_
        refine j_iinc_6 C dX4_savingAt_41 rfl ?_
        refine j_goto (tgt := 13) C dX4_savingAt_44 (by decide) ?_
        exact ih13 _ _ (by omega) (by rcases Nat.lt_or_ge k.toNat (prs Rr).length with hkl | hko; (rw [← hc, sumL_drop hkl, show (k + 1).toNat = k.toNat + 1 by omega, h35, h31, if_pos (hpi _ (getD_mem (z := -1) hkl)).1]; omega); (rw [← hc, drop_out hko, drop_out (show (prs Rr).length ≤ (k + 1).toNat by omega)]; rw [if_neg (by rw [h31, getD_out hko]; omega)] at h35; rw [h35]; omega)) (by omega)
  exact L13 _ _ _ (by omega) (by exact Int.zero_add _) (Nat.lt_succ_self _)
