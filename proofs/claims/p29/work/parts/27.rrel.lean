/-! the rings: best, releases -/
theorem disK_o : ∀ (qs : List Int) (S : Int → Int) (amt : Int), Inv S → 0 ≤ amt → (disK S qs amt 0 = S 0 ∧ disK S qs amt 1 = S 1 ∧ disK S qs amt 2 = S 2 ∧ disK S qs amt 4 = S 4) ∧ Inv (disK S qs amt) ∧ ∀ k : Int, 0 ≤ k → fr (disK S qs amt) k = fr S k ∧ tO (disK S qs amt) k = tO S k ∧ ra (disK S qs amt) k = ra S k ∧ di (disK S qs amt) k = di S k ∧ fi (disK S qs amt) k = fi S k ∧ pa (disK S qs amt) k = pa S k
  | [], S, _, hI, _ => ⟨⟨rfl, rfl, rfl, rfl⟩, hI, fun _ _ => ⟨rfl, rfl, rfl, rfl, rfl, rfl⟩⟩
  | q :: t, S, amt, hI, h0 => by
    have a := relK_o (chR S q 9) S amt (fun k hk => (chR_mem hk hI.2.1.1).2.1)
    have b := disK_o t (relK S (chR S q 9) amt) amt (relK_Inv hI h0) h0
    rw [disK]
    refine ⟨⟨b.1.1.trans a.1.1, b.1.2.1.trans a.1.2.1, b.1.2.2.1.trans a.1.2.2.1, b.1.2.2.2.trans a.1.2.2.2⟩, b.2.1, fun k hk => ?_⟩
    have u := a.2 k hk
    have v := b.2.2 k hk
    exact ⟨v.1.trans u.1, v.2.1.trans u.2.1, v.2.2.1.trans u.2.2.1, v.2.2.2.1.trans u.2.2.2.1, v.2.2.2.2.1.trans u.2.2.2.2.1, v.2.2.2.2.2.trans u.2.2.2.2.2⟩
theorem Inv_hi {S T : Int → Int} (hI : Inv S) (h : T 0 = S 0 ∧ T 1 = S 1) (hk : ∀ j : Int, 5 ≤ j → T j = S j) : Inv T := Inv_am hI h (fun k h0 => ⟨hk _ (by omega), hk _ (by omega), hk _ (by omega), hk _ (by omega)⟩) (fun j h0 h1 => by
  have e : am T j = am S j := hk _ (by omega)
  have := (hI.2.2 j h0 h1).2.2.2.1
  omega)
theorem disR_Inv {S : Int → Int} {r : List Int} {amt : Int} (hI : Inv S) (h0 : 0 ≤ amt) : Inv (disR S r amt) := by
  have := (disK_o (prs r) S amt hI h0).2.1
  unfold disR
  exact Inv_hi this ⟨st_n (by omega), st_n (by omega)⟩ (fun j hj => st_n (by omega))
theorem disR_Inz {S : Int → Int} {r : List Int} {amt : Int} (hI : Inv S) (hz : Inz S) (h0 : 0 ≤ amt) : Inz (disR S r amt) := fun k a b => by
  have e : di (disR S r amt) k = di (disK S (prs r) amt) k := st_n (by omega)
  rw [e, ((disK_o (prs r) S amt hI h0).2.2 k a).2.2.2.1]
  exact hz k a b
theorem disB_Inv {S : Int → Int} (hI : Inv S) (hb : best S ≠ -1) : Inv (disB S) := by
  have h := best_rng S
  have := room_bd hI (RS_get (S := S) (i := best S) (by omega) (by omega))
  exact disR_Inv hI (by omega)
theorem disB_Inz {S : Int → Int} (hI : Inv S) (hz : Inz S) (hb : best S ≠ -1) : Inz (disB S) := by
  have h := best_rng S
  have := room_bd hI (RS_get (S := S) (i := best S) (by omega) (by omega))
  exact disR_Inz hI hz (by omega)
theorem disA_Inv : ∀ (n : Nat) (S : Int → Int) (c : Int), Inv S → Inv (disA n S c).1
  | 0, _, _, h => h
  | n + 1, S, c, h => by
    rw [disA]
    split
    · exact h
    · rename_i q
      exact disA_Inv n _ _ (disB_Inv h q)
theorem disA_Inz : ∀ (n : Nat) (S : Int → Int) (c : Int), Inv S → Inz S → Inz (disA n S c).1
  | 0, _, _, _, h => h
  | n + 1, S, c, hI, h => by
    rw [disA]
    split
    · exact h
    · rename_i q
      exact disA_Inz n _ _ (disB_Inv hI q) (disB_Inz hI h q)
theorem bs_step {sv : List Int → Int} {L : List (List Int)} {i b m : Int} (h0 : 0 ≤ i) (h1 : i < (L.length : Nat)) : bs sv (L.drop i.toNat) i b m = if m < sv (L.getD i.toNat []) then bs sv (L.drop (i + 1).toNat) (i + 1) i (sv (L.getD i.toNat [])) else bs sv (L.drop (i + 1).toNat) (i + 1) b m := by
  have hl : i.toNat < L.length := by omega
  rw [List.drop_eq_getElem_cons hl, bs, List.getD_eq_getElem?_getD, List.getElem?_eq_getElem hl, show (i + 1).toNat = i.toNat + 1 by omega]
  rfl
theorem pm_7_0_1_2_3_4_5_6 (B0 B1 B2 B3 B4 B5 B6 : va_W) : [B0, B1, B2, B3, B4, B5, B6].Perm ([B0, B1, B2, B3, B4, B5, B6] ++ []) := List.Perm.trans (List.Perm.refl _) (List.Perm.trans (List.Perm.cons _ (List.Perm.refl _)) (List.Perm.trans (List.Perm.cons _ (List.Perm.cons _ (List.Perm.refl _))) (List.Perm.trans (List.Perm.cons _ (List.Perm.cons _ (List.Perm.cons _ (List.Perm.refl _)))) (List.Perm.trans (List.Perm.cons _ (List.Perm.cons _ (List.Perm.cons _ (List.Perm.cons _ (List.Perm.refl _))))) (List.Perm.trans (List.Perm.cons _ (List.Perm.cons _ (List.Perm.cons _ (List.Perm.cons _ (List.Perm.cons _ (List.Perm.refl _)))))) (List.Perm.cons _ (List.Perm.cons _ (List.Perm.cons _ (List.Perm.cons _ (List.Perm.cons _ (List.Perm.cons _ (List.Perm.refl _))))))))))))
theorem pr_7_0_1_2_3_4_5_6 (B0 B1 B2 B3 B4 B5 B6 : va_W) : ([B0, B1, B2, B3, B4, B5, B6] ++ []).Perm [B0, B1, B2, B3, B4, B5, B6] := (pm_7_0_1_2_3_4_5_6 B0 B1 B2 B3 B4 B5 B6).symm
set_option maxHeartbeats 4000000 in
set_option maxRecDepth 100000 in
theorem c_X4_best (l : Launch) (D : va_G) (cA : Nat → ClassId) (r d b : Nat → Nat) (z : Int) (X F Nx f S : Int → Int) (hI : Inv S) (hF : Fnd S X F Nx f z) : MI (U := Unit) l yX4_best cX4_best 6 (some .int) (rmN 5 0 0) D cA [.ref (r 0), .ref (b 0)] [rgO r (d 0) z, dbO d, [(d 1, aJ (cA 0) 49 X)], [(d 2, aJ (cA 0) 49 F)], [(d 3, aJ (cA 0) 40 Nx)], [(r 1, aJ (cA 0) 2365 f)], bk cA b S] (fun x _ => x = best S) (fun _ => [rgO r (d 0) z, dbO d, [(d 1, aJ (cA 0) 49 X)], [(d 2, aJ (cA 0) 49 F)], [(d 3, aJ (cA 0) 40 Nx)], [(r 1, aJ (cA 0) 2365 f)], bk cA b S]) := by
  refine m_startI pn_X4 rfl (List.forall_mem_cons.mpr ⟨rfl, List.forall_mem_cons.mpr ⟨rfl, fun _ h => absurd h List.not_mem_nil⟩⟩) (Nat.le_of_ble_eq_true rfl) ?_
  intro K C e1 e2 e3 hin hR
  subst e1 e2 e3
  have hz := hF.2.1
  have hlen := RS_len hI
  show J K 0 0 [rgO r (d 0) z, dbO d, [(d 1, aJ ((kC K) 0) 49 X)], [(d 2, aJ ((kC K) 0) 49 F)], [(d 3, aJ ((kC K) 0) 40 Nx)], [(r 1, aJ ((kC K) 0) 2365 f)], bk (kC K) b S] [some (.ref (r 0)), some (.ref (b 0)), none, none, none, none] 0 []
  refine j_iconst C dX4_best_0 ?_
  refine j_istn_2 C dX4_best_1 rfl ?_
  refine j_iconst C dX4_best_2 ?_
  refine j_istn_3 C dX4_best_3 rfl ?_
  refine j_iconst C dX4_best_4 ?_
  refine j_ist_4 C dX4_best_5 rfl ?_
  have L7 : ∀ (fuel : Nat) (i b0 m : Int) (hi : 0 ≤ i ∧ i ≤ z) (hm : 0 ≤ m ∧ m ≤ 2520000) (hb : bs (sav S) ((RS S).drop i.toNat) i b0 m = bs (sav S) (RS S) 0 (-1) 0) (hf7 : (z - i).toNat < fuel), J K 0 0 [rgO r (d 0) z, dbO d, [(d 1, aJ ((kC K) 0) 49 X)], [(d 2, aJ ((kC K) 0) 49 F)], [(d 3, aJ ((kC K) 0) 40 Nx)], [(r 1, aJ ((kC K) 0) 2365 f)], bk (kC K) b S] [some (.ref (r 0)), some (.ref (b 0)), some (.int (iI b0)), some (.int (iI m)), some (.int (iI i)), none] 7 [] := by
    intro fuel
    induction fuel with
    | zero => intro i b0 m hi hm hb hf7; exact absurd hf7 (Nat.not_lt_zero _)
    | succ fuel ih7 =>
      intro i b0 m hi hm hb hf7
      refine j_iload C dX4_best_7 rfl ?_
      refine j_aload_n C dX4_best_9 rfl ?_
      refine j_get C 0 0 3 rfl rfl rfl wU_X4 (by decide) wF_X4_29 rfl dX4_best_10 ?_
      refine j_icmp_ge (tgt := 49) C dX4_best_13 (by decide) (by omega) (by omega) (by omega) (by omega) (fun c13 => ?_) (fun c13 => ?_)
      · refine j_iload_n C dX4_best_49 rfl ?_
        refine hR () dX4_best_50 ?_ rfl (Nat.le_of_ble_eq_true rfl) (Nat.le_of_ble_eq_true rfl)
        show b0 = _
        unfold best
        rw [← hb, drop_out (by omega)]
        rfl
      · refine j_aload_n C dX4_best_16 rfl ?_
        refine j_aload_n C dX4_best_17 rfl ?_
        refine j_iload C dX4_best_18 rfl ?_
        refine j_aload_n C dX4_best_20 rfl ?_
        refine j_iload C dX4_best_21 rfl ?_
        refine j_perm (pm_7_0_1_2_3_4_5 _ _ _ _ _ _ _) ?_
        refine j_callVi C (As := [.int (iI _)]) (c_X4_roomAt _ _ _ _ _ _ _ _ _ _ _ _ (by exact hI) (by exact hF) (by omega)) 1 nf_X4_roomAt (jb := 0) rfl rfl wL_X4_69 wI_X4_roomAt wSe_X4_X4_roomAt wIn_X4 wC_X4_roomAt rfl rfl (by decide) dX4_best_23 (Nat.le_of_ble_eq_true rfl) ⟨Nat.le_of_ble_eq_true rfl, Nat.le_of_ble_eq_true rfl⟩ (fun x23 u23 h23 => ?_)
        refine j_perm (pr_7_0_1_2_3_4_5 _ _ _ _ _ _ _) ?_
        have hgi := RS_get (S := S) (i := i) hi.1 (by omega)
        have hrb := room_bd hI hgi
        rw [h23]
        refine j_perm (pm_7_0_1_2_3_4_5_6 _ _ _ _ _ _ _) ?_
        refine j_callVi C (As := [.ref _, .int (iI _), .int (iI _)]) (c_X4_savingAt _ _ _ _ _ _ _ _ _ _ _ _ _ _ (by exact hI) (by exact hF) (by omega) (by omega)) 3 nf_X4_savingAt (jb := 0) rfl rfl wL_X4_72 wI_X4_savingAt wSe_X4_X4_savingAt wIn_X4 wC_X4_savingAt rfl rfl (by decide) dX4_best_26 (Nat.le_of_ble_eq_true rfl) ⟨Nat.le_of_ble_eq_true rfl, Nat.le_of_ble_eq_true rfl⟩ (fun x26 u26 h26 => ?_)
        refine j_perm (pr_7_0_1_2_3_4_5_6 _ _ _ _ _ _ _) ?_
        have h26b : x26 = sav S ((RS S).getD i.toNat []) := h26
        have hsb := savP_bd hI hgi.1.2.1 (amt := room S ((RS S).getD i.toNat [])) (by omega) (by omega)
        have hsb2 : 0 ≤ x26 ∧ x26 ≤ 2520000 := by rw [h26]; exact hsb
        refine j_ist_5 C dX4_best_29 rfl ?_
        refine j_iload C dX4_best_31 rfl ?_
        refine j_iload_n C dX4_best_33 rfl ?_
        refine j_icmp_le (tgt := 43) C dX4_best_34 (by decide) (by omega) (by omega) (by omega) (by omega) (fun c34 => ?_) (fun c34 => ?_)
        · refine j_iinc_4 C dX4_best_43 rfl ?_
          refine j_goto (tgt := 7) C dX4_best_46 (by decide) ?_
          exact j_lle (lv' := [_, _, _, _, _, none]) ⟨Or.inr rfl, ⟨Or.inr rfl, ⟨Or.inr rfl, ⟨Or.inr rfl, ⟨Or.inr rfl, ⟨Or.inl rfl, trivial⟩⟩⟩⟩⟩⟩ (ih7 _ _ _ (by omega) (by omega) (by first | (rw [← hb, bs_step hi.1 (by omega), if_pos (by omega), ← h26b]) | (rw [← hb, bs_step hi.1 (by omega), if_neg (by omega)])) (by omega))
        · refine j_iload C dX4_best_37 rfl ?_
          refine j_istn_2 C dX4_best_39 rfl ?_
          refine j_iload C dX4_best_40 rfl ?_
          refine j_istn_3 C dX4_best_42 rfl ?_
          refine j_iinc_4 C dX4_best_43 rfl ?_
          refine j_goto (tgt := 7) C dX4_best_46 (by decide) ?_
          exact j_lle (lv' := [_, _, _, _, _, none]) ⟨Or.inr rfl, ⟨Or.inr rfl, ⟨Or.inr rfl, ⟨Or.inr rfl, ⟨Or.inr rfl, ⟨Or.inl rfl, trivial⟩⟩⟩⟩⟩⟩ (ih7 _ _ _ (by omega) (by omega) (by first | (rw [← hb, bs_step hi.1 (by omega), if_pos (by omega), ← h26b]) | (rw [← hb, bs_step hi.1 (by omega), if_neg (by omega)])) (by omega))
  exact L7 _ _ _ _ (by omega) (by omega) (by rfl) (Nat.lt_succ_self _)
set_option maxHeartbeats 4000000 in
set_option maxRecDepth 100000 in
theorem c_X4_releaseAround (l : Launch) (D : va_G) (cA : Nat → ClassId) (r d b : Nat → Nat) (z : Int) (X F Nx f S : Int → Int) (i part : Int) (hI : Inv S) (hF : Fnd S X F Nx f z) (hi : 0 ≤ i ∧ i < z) (hpa : 0 ≤ part ∧ part ≤ 40000) : MI (U := Unit) l yX4_releaseAround cX4_releaseAround 7 (some .int) (rmN 6 0 0) D cA [.ref (r 0), .ref (b 0), .int (iI i), .int (iI part)] [rgO r (d 0) z, dbO d, [(d 1, aJ (cA 0) 49 X)], [(d 2, aJ (cA 0) 49 F)], [(d 3, aJ (cA 0) 40 Nx)], [(r 1, aJ (cA 0) 2365 f)], bk cA b S] (fun x _ => x = savP S ((RS S).getD i.toNat []) part) (fun _ => [rgO r (d 0) z, dbO d, [(d 1, aJ (cA 0) 49 X)], [(d 2, aJ (cA 0) 49 F)], [(d 3, aJ (cA 0) 40 Nx)], [(r 1, aJ (cA 0) 2365 f)], bk cA b (disR S ((RS S).getD i.toNat []) part)]) := by
  refine m_startI pn_X4 rfl (List.forall_mem_cons.mpr ⟨rfl, List.forall_mem_cons.mpr ⟨rfl, List.forall_mem_cons.mpr ⟨rfl, List.forall_mem_cons.mpr ⟨rfl, fun _ h => absurd h List.not_mem_nil⟩⟩⟩⟩) (Nat.le_of_ble_eq_true rfl) ?_
  intro K C e1 e2 e3 hin hR
  subst e1 e2 e3
  have hz := hF.2.1
  have hlen := RS_len hI
  have hpr := RS_get (S := S) hi.1 (by rw [hz] at hi; exact hi.2)
  have hrep := hF.2.2 i hi.1 hi.2
  have hps := prs_len ((RS S).getD i.toNat [])
  have hpl := hpr.1.2.1
  have hpi := prs_in hpr.1
  have hpp := hpr.2
  have hne := prs_ne hpr.1
  have hrb := room_bd hI hpr
  obtain ⟨Rr, hRr⟩ : ∃ z, z = ((RS S).getD i.toNat []) := ⟨_, rfl⟩
  rw [← hRr] at hpr hrep hps hpl hpi hpp hne hrb
  have hnd := prs_nd hpr.1
  show J K 0 0 [rgO r (d 0) z, dbO d, [(d 1, aJ ((kC K) 0) 49 X)], [(d 2, aJ ((kC K) 0) 49 F)], [(d 3, aJ ((kC K) 0) 40 Nx)], [(r 1, aJ ((kC K) 0) 2365 f)], bk (kC K) b S] [some (.ref (r 0)), some (.ref (b 0)), some (.int (iI i)), some (.int (iI part)), none, none, none] 0 []
  refine j_aload_n C dX4_releaseAround_0 rfl ?_
  refine j_aload_n C dX4_releaseAround_1 rfl ?_
  refine j_iload_n C dX4_releaseAround_2 rfl ?_
  refine j_iload_n C dX4_releaseAround_3 rfl ?_
  refine j_perm (pm_7_0_1_2_3_4_5_6 _ _ _ _ _ _ _) ?_
  refine j_callVi C (As := [.ref _, .int (iI _), .int (iI _)]) (c_X4_savingAt _ _ _ _ _ _ _ _ _ _ _ _ _ _ (by exact hI) (by exact hF) (by exact hi) (by exact hpa)) 3 nf_X4_savingAt (jb := 0) rfl rfl wL_X4_72 wI_X4_savingAt wSe_X4_X4_savingAt wIn_X4 wC_X4_savingAt rfl rfl (by decide) dX4_releaseAround_4 (Nat.le_of_ble_eq_true rfl) ⟨Nat.le_of_ble_eq_true rfl, Nat.le_of_ble_eq_true rfl⟩ (fun x4 u4 h4 => ?_)
  refine j_perm (pr_7_0_1_2_3_4_5_6 _ _ _ _ _ _ _) ?_
  refine j_ist_4 C dX4_releaseAround_7 rfl ?_
  refine j_aload_n C dX4_releaseAround_9 rfl ?_
  refine j_iload_n C dX4_releaseAround_10 rfl ?_
  refine j_perm (pm_7_0_5 _ _ _ _ _ _ _) ?_
  refine j_callVi C (As := [.int (iI _)]) (c_X4_rowAt _ _ _ _ _ _ _ _ (by first | assumption | omega) (by first | assumption | omega)) 1 nf_X4_rowAt (jb := 0) rfl rfl wL_X4_54 wI_X4_rowAt wSe_X4_X4_rowAt wIn_X4 wC_X4_rowAt rfl rfl (by decide) dX4_releaseAround_11 (Nat.le_of_ble_eq_true rfl) ⟨Nat.le_of_ble_eq_true rfl, Nat.le_of_ble_eq_true rfl⟩ (fun x11 u11 h11 => ?_)
  refine j_perm (pr_7_0_5 _ _ _ _ _ _ _) ?_
  have hrw := h11
  refine j_ist_5 C dX4_releaseAround_14 rfl ?_
  refine j_iconst C dX4_releaseAround_16 ?_
  refine j_ist_6 C dX4_releaseAround_17 rfl ?_
  have L19 : ∀ (fuel : Nat) (k : Int) (T : Int → Int) (hk : 0 ≤ k ∧ k ≤ 7) (hTI : Inv T) (hTc : ∀ q ∈ (prs Rr).drop k.toNat, chR T q 9 = chR S q 9) (hTd : disK T ((prs Rr).drop k.toNat) part = disK S (prs Rr) part) (hf19 : (7 - k).toNat < fuel), J K 0 0 [rgO r (d 0) z, dbO d, [(d 1, aJ ((kC K) 0) 49 X)], [(d 2, aJ ((kC K) 0) 49 F)], [(d 3, aJ ((kC K) 0) 40 Nx)], [(r 1, aJ ((kC K) 0) 2365 f)], bk (kC K) b T] [some (.ref (r 0)), some (.ref (b 0)), some (.int (iI i)), some (.int (iI part)), some (.int (iI x4)), some (.int (iI x11)), some (.int (iI k))] 19 [] := by
    intro fuel
    induction fuel with
    | zero => intro k T hk hTI hTc hTd hf19; exact absurd hf19 (Nat.not_lt_zero _)
    | succ fuel ih19 =>
      intro k T hk hTI hTc hTd hf19
      refine j_iload C dX4_releaseAround_19 rfl ?_
      refine j_bipush C dX4_releaseAround_21 (by decide) ?_
      refine j_icmp_ge (tgt := 48) C dX4_releaseAround_23 (by decide) (by omega) (by omega) (by omega) (by omega) (fun c23 => ?_) (fun c23 => ?_)
      · have eT : T = disK S (prs Rr) part := by rw [← hTd, drop_out (show (prs Rr).length ≤ k.toNat by omega)]; rfl
        subst eT
        refine j_aload_n C dX4_releaseAround_48 rfl ?_
        refine j_dup C dX4_releaseAround_49 rfl ?_
        refine j_getN C 6 0 4 rfl rfl rfl wU_X0 (by decide) wFN_X4_79 rfl dX4_releaseAround_50 ?_
        refine j_iconst C dX4_releaseAround_53 ?_
        refine j_iadd C dX4_releaseAround_54 ?_
        refine j_putN_p6 C 0 4 rfl bk_put4 rfl wU_X0 tyX0_ok nmX0 (by decide) wFN_X4_79 rfl rfl rfl (Nat.le_of_ble_eq_true rfl) dX4_releaseAround_55 ?_
        refine j_iload C dX4_releaseAround_58 rfl ?_
        exact hR () dX4_releaseAround_60 (by exact h4) (by rw [← hRr]; rfl) (Nat.le_of_ble_eq_true rfl) (Nat.le_of_ble_eq_true rfl)
      · refine j_aload_n C dX4_releaseAround_26 rfl ?_
        refine j_get C 0 0 0 rfl rfl rfl wU_X4 (by decide) wF_X4_14 rfl dX4_releaseAround_27 ?_
        refine j_aload_n C dX4_releaseAround_30 rfl ?_
        refine j_iload C dX4_releaseAround_31 rfl ?_
        refine j_iload C dX4_releaseAround_33 rfl ?_
        refine j_perm (pm_7 _ _ _ _ _ _ _) ?_
        refine j_callSi C (As := [.int (iI _), .int (iI _)]) (c_X4_pairIn _ _ _ _ _ (Rr) (by rw [hrw]; exact hrep) (by exact hpr.1) (by first | assumption | omega)) 2 nf_X4_pairIn.2 wL_X4_57 wS_X4_pairIn wIn_X4 wC_X4_pairIn rfl rfl (by decide) dX4_releaseAround_35 (Nat.le_of_ble_eq_true rfl) ⟨Nat.le_of_ble_eq_true rfl, Nat.le_of_ble_eq_true rfl⟩ (fun x35 u35 h35 => ?_)
        refine j_perm (pr_7 _ _ _ _ _ _ _) ?_
        have hb35 : -1 ≤ x35 ∧ x35 < 49 := by rw [h35]; by_cases q : (k).toNat < (prs Rr).length; (have := hpi _ (getD_mem (z := -1) q); omega); (rw [getD_out (by omega)]; omega)
        refine j_iload_n C dX4_releaseAround_38 rfl ?_
        refine j_perm (pm_7_1_2_3_4_6 _ _ _ _ _ _ _) ?_
        refine j_callVv C (As := [.ref _, .int (iI _), .int (iI _)]) (c_X1_releaseFrom _ _ _ _ _ _ _ _ _ _ _ (by exact hTI) (by intro q; rw [h35]; have hkl : k.toNat < (prs Rr).length := (by (apply Classical.byContradiction; intro w; have := getD_out (r := prs Rr) (k := k.toNat) (z := -1) (by omega); omega)); rw [hTc _ (by rw [List.drop_eq_getElem_cons hkl, List.getD_eq_getElem?_getD, List.getElem?_eq_getElem hkl]; exact List.mem_cons_self)]; exact (hF.1 _ (hpi _ (getD_mem (z := -1) hkl)).1 (hpi _ (getD_mem (z := -1) hkl)).2).2) (by first | assumption | omega) (by first | assumption | omega)) 3 nf_X1_releaseFrom (jb := 0) rfl rfl wL_X4_75 wI_X1_releaseFrom wSe_X1_X1_releaseFrom wIn_X1 wC_X1_releaseFrom rfl rfl (by decide) dX4_releaseAround_39 (Nat.le_of_ble_eq_true rfl) ⟨Nat.le_of_ble_eq_true rfl, Nat.le_of_ble_eq_true rfl⟩ (fun u39 h39 => ?_)
        refine j_perm (pr_7_1_2_3_4_6 _ _ _ _ _ _ _) ?_
        refine j_iinc_6 C dX4_releaseAround_42 rfl ?_
        refine j_goto (tgt := 19) C dX4_releaseAround_45 (by decide) ?_
        exact ih19 _ _ (by omega) (by split; (exact relK_Inv hTI hpa.1); (exact hTI)) (by intro q hq; rw [show (k + 1).toNat = k.toNat + 1 by omega] at hq; rcases Nat.lt_or_ge k.toNat (prs Rr).length with hkl | hko; (have hd := List.drop_eq_getElem_cons hkl; have hmq : q ∈ (prs Rr).drop k.toNat := (by rw [hd]; exact List.mem_cons_of_mem _ hq); have hne2 : q ≠ x35 := (by intro e; have hn2 := hnd.sublist (List.drop_sublist k.toNat (prs Rr)); rw [hd, List.nodup_cons] at hn2; apply hn2.1; rw [h35, List.getD_eq_getElem?_getD, List.getElem?_eq_getElem hkl] at e; rw [← show q = (prs Rr)[k.toNat] from e]; exact hq); split; (rw [relK_ch hTI hne2]; exact hTc q hmq); (exact hTc q hmq)); (rw [drop_out (by omega)] at hq; exact absurd hq List.not_mem_nil)) (by rw [← hTd]; rcases Nat.lt_or_ge k.toNat (prs Rr).length with hkl | hko; (have e35 : x35 = (prs Rr)[k.toNat] := (by rw [h35, List.getD_eq_getElem?_getD, List.getElem?_eq_getElem hkl]; rfl); rw [List.drop_eq_getElem_cons hkl, disK, ← e35, if_pos (by rw [h35]; exact (hpi _ (getD_mem (z := -1) hkl)).1), show (k + 1).toNat = k.toNat + 1 by omega]); (rw [drop_out hko, drop_out (show (prs Rr).length ≤ (k + 1).toNat by omega), if_neg (by rw [h35, getD_out hko]; omega)])) (by omega)
  exact L19 _ _ _ (by omega) (by exact hI) (by exact fun _ _ => rfl) (by rfl) (Nat.lt_succ_self _)
set_option maxHeartbeats 4000000 in
set_option maxRecDepth 100000 in
theorem c_X4_releaseBest (l : Launch) (D : va_G) (cA : Nat → ClassId) (r d b : Nat → Nat) (z : Int) (X F Nx f S : Int → Int) (hI : Inv S) (hF : Fnd S X F Nx f z) : MI (U := Unit) l yX4_releaseBest cX4_releaseBest 3 (some .int) (rmN 7 0 0) D cA [.ref (r 0), .ref (b 0)] [rgO r (d 0) z, dbO d, [(d 1, aJ (cA 0) 49 X)], [(d 2, aJ (cA 0) 49 F)], [(d 3, aJ (cA 0) 40 Nx)], [(r 1, aJ (cA 0) 2365 f)], bk cA b S] (fun x _ => x = bestV S) (fun _ => [rgO r (d 0) z, dbO d, [(d 1, aJ (cA 0) 49 X)], [(d 2, aJ (cA 0) 49 F)], [(d 3, aJ (cA 0) 40 Nx)], [(r 1, aJ (cA 0) 2365 f)], bk cA b (if best S = -1 then S else disB S)]) := by
  refine m_startI pn_X4 rfl (List.forall_mem_cons.mpr ⟨rfl, List.forall_mem_cons.mpr ⟨rfl, fun _ h => absurd h List.not_mem_nil⟩⟩) (Nat.le_of_ble_eq_true rfl) ?_
  intro K C e1 e2 e3 hin hR
  subst e1 e2 e3
  have hz := hF.2.1
  have hlen := RS_len hI
  have hbr := best_rng S
  have hbv := best_val S
  show J K 0 0 [rgO r (d 0) z, dbO d, [(d 1, aJ ((kC K) 0) 49 X)], [(d 2, aJ ((kC K) 0) 49 F)], [(d 3, aJ ((kC K) 0) 40 Nx)], [(r 1, aJ ((kC K) 0) 2365 f)], bk (kC K) b S] [some (.ref (r 0)), some (.ref (b 0)), none] 0 []
  refine j_aload_n C dX4_releaseBest_0 rfl ?_
  refine j_aload_n C dX4_releaseBest_1 rfl ?_
  refine j_perm (pm_7_0_1_2_3_4_5_6 _ _ _ _ _ _ _) ?_
  refine j_callVi C (As := [.ref _]) (c_X4_best _ _ _ _ _ _ _ _ _ _ _ _ (by exact hI) (by exact hF)) 1 nf_X4_best (jb := 0) rfl rfl wL_X4_84 wI_X4_best wSe_X4_X4_best wIn_X4 wC_X4_best rfl rfl (by decide) dX4_releaseBest_2 (Nat.le_of_ble_eq_true rfl) ⟨Nat.le_of_ble_eq_true rfl, Nat.le_of_ble_eq_true rfl⟩ (fun x2 u2 h2 => ?_)
  refine j_perm (pr_7_0_1_2_3_4_5_6 _ _ _ _ _ _ _) ?_
  subst h2
  refine j_istn_2 C dX4_releaseBest_5 rfl ?_
  refine j_iload_n C dX4_releaseBest_6 rfl ?_
  refine j_iconst C dX4_releaseBest_7 ?_
  refine j_icmp_ne (tgt := 15) C dX4_releaseBest_8 (by decide) (by omega) (by omega) (by omega) (by omega) (fun c8 => ?_) (fun c8 => ?_)
  · refine j_aload_n C dX4_releaseBest_15 rfl ?_
    refine j_aload_n C dX4_releaseBest_16 rfl ?_
    refine j_iload_n C dX4_releaseBest_17 rfl ?_
    refine j_aload_n C dX4_releaseBest_18 rfl ?_
    refine j_iload_n C dX4_releaseBest_19 rfl ?_
    refine j_perm (pm_7_0_1_2_3_4_5 _ _ _ _ _ _ _) ?_
    refine j_callVi C (As := [.int (iI _)]) (c_X4_roomAt _ _ _ _ _ _ _ _ _ _ _ _ (by exact hI) (by exact hF) (by omega)) 1 nf_X4_roomAt (jb := 0) rfl rfl wL_X4_69 wI_X4_roomAt wSe_X4_X4_roomAt wIn_X4 wC_X4_roomAt rfl rfl (by decide) dX4_releaseBest_20 (Nat.le_of_ble_eq_true rfl) ⟨Nat.le_of_ble_eq_true rfl, Nat.le_of_ble_eq_true rfl⟩ (fun x20 u20 h20 => ?_)
    refine j_perm (pr_7_0_1_2_3_4_5 _ _ _ _ _ _ _) ?_
    have hgi := RS_get (S := S) (i := best S) (by omega) (by omega)
    have hrb := room_bd hI hgi
    subst h20
    refine j_perm (pm_7_0_1_2_3_4_5_6 _ _ _ _ _ _ _) ?_
    refine j_callVi C (As := [.ref _, .int (iI _), .int (iI _)]) (c_X4_releaseAround _ _ _ _ _ _ _ _ _ _ _ _ _ _ (by exact hI) (by exact hF) (by omega) (by omega)) 3 nf_X4_releaseAround (jb := 0) rfl rfl wL_X4_88 wI_X4_releaseAround wSe_X4_X4_releaseAround wIn_X4 wC_X4_releaseAround rfl rfl (by decide) dX4_releaseBest_23 (Nat.le_of_ble_eq_true rfl) ⟨Nat.le_of_ble_eq_true rfl, Nat.le_of_ble_eq_true rfl⟩ (fun x23 u23 h23 => ?_)
    refine j_perm (pr_7_0_1_2_3_4_5_6 _ _ _ _ _ _ _) ?_
    refine hR () dX4_releaseBest_26 ?_ (by first | (rw [if_pos (by omega)]; done) | (rw [if_neg (by omega)]; rfl)) (Nat.le_of_ble_eq_true rfl) (Nat.le_of_ble_eq_true rfl)
    first | (show (0 : Int) = _; omega) | (show x23 = _; rw [h23]; rcases hbv with q | q; (exact absurd q.1 (by omega)); (exact q.2.symm))
  · refine j_iconst C dX4_releaseBest_11 ?_
    refine j_goto (tgt := 26) C dX4_releaseBest_12 (by decide) ?_
    refine hR () dX4_releaseBest_26 ?_ (by first | (rw [if_pos (by omega)]; done) | (rw [if_neg (by omega)]; rfl)) (Nat.le_of_ble_eq_true rfl) (Nat.le_of_ble_eq_true rfl)
    first | (show (0 : Int) = _; omega) | (show x23 = _; rw [h23]; rcases hbv with q | q; (exact absurd q.1 (by omega)); (exact q.2.symm))
