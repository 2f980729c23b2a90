/-! the reference: copies, what is saved -/
set_option maxHeartbeats 4000000 in
set_option maxRecDepth 100000 in
theorem c_X6_copies (l : Launch) (D : va_G) (cA : Nat → ClassId) (q1 q2 n1 n2 : Nat) (f g : Int → Int) (i j : Int) (hi : 0 ≤ i ∧ i + 325 ≤ (n1 : Int)) (hj : 0 ≤ j ∧ j + 325 ≤ (n2 : Int)) (hn : n1 < 10000 ∧ n2 < 10000) : MV (U := Unit) l yX6_copies cX6_copies 5 none (rmN 1 0 0) D cA [.ref (q1), .int (iI i), .ref (q2), .int (iI j)] [[(q1, aJ (cA 0) n1 f)], [(q2, aJ (cA 0) n2 g)]] (fun _ => True) (fun _ => [[(q1, aJ (cA 0) n1 f)], [(q2, aJ (cA 0) n2 (cpA f g i j 325))]]) := by
  refine m_startV pn_X6 rfl (List.forall_mem_cons.mpr ⟨rfl, List.forall_mem_cons.mpr ⟨rfl, List.forall_mem_cons.mpr ⟨rfl, List.forall_mem_cons.mpr ⟨rfl, fun _ h => absurd h List.not_mem_nil⟩⟩⟩⟩) (Nat.le_of_ble_eq_true rfl) ?_
  intro K C e1 e2 e3 hin hR
  subst e1 e2 e3
  show J K 0 0 [[(q1, aJ ((kC K) 0) n1 f)], [(q2, aJ ((kC K) 0) n2 g)]] [some (.ref (q1)), some (.int (iI i)), some (.ref (q2)), some (.int (iI j)), none] 0 []
  refine j_iconst C dX6_copies_0 ?_
  refine j_ist_4 C dX6_copies_1 rfl ?_
  have L3 : ∀ (fuel : Nat) (k : Int) (h : Int → Int) (hk : 0 ≤ k ∧ k ≤ 325) (hh : h = cpA f g i j k) (hf3 : (325 - k).toNat < fuel), J K 0 0 [[(q1, aJ ((kC K) 0) n1 f)], [(q2, aJ ((kC K) 0) n2 h)]] [some (.ref (q1)), some (.int (iI i)), some (.ref (q2)), some (.int (iI j)), some (.int (iI k))] 3 [] := by
    intro fuel
    induction fuel with
    | zero => intro k h hk hh hf3; exact absurd hf3 (Nat.not_lt_zero _)
    | succ fuel ih3 =>
      intro k h hk hh hf3
      refine j_iload C dX6_copies_3 rfl ?_
      refine j_sipush C dX6_copies_5 (by decide) ?_
      refine j_icmp_ge (tgt := 29) C dX6_copies_8 (by decide) (by omega) (by omega) (by omega) (by omega) (fun c8 => ?_) (fun c8 => ?_)
      · have hfin : h = cpA f g i j 325 := by rw [hh, show k = 325 by omega]
        subst hfin
        exact hR () dX6_copies_29 (by trivial) rfl (Nat.le_of_ble_eq_true rfl) (Nat.le_of_ble_eq_true rfl)
      · refine j_aload_n C dX6_copies_11 rfl ?_
        refine j_iload_n C dX6_copies_12 rfl ?_
        refine j_iload C dX6_copies_13 rfl ?_
        refine j_iadd C dX6_copies_15 ?_
        refine j_aload_n C dX6_copies_16 rfl ?_
        refine j_iload_n C dX6_copies_17 rfl ?_
        refine j_iload C dX6_copies_18 rfl ?_
        refine j_iadd C dX6_copies_20 ?_
        refine j_iald C 0 0 rfl rfl dX6_copies_21 (by omega) (by omega) (by omega) ?_
        refine j_iast_p1 C 0 rfl ar1_ast dX6_copies_22 (by omega) (by omega) (by omega) ?_
        refine j_iinc_4 C dX6_copies_23 rfl ?_
        refine j_goto (tgt := 3) C dX6_copies_26 (by decide) ?_
        exact ih3 _ _ (by omega) (by rw [hh]; funext z; unfold st cpA; by_cases c : z = j + k; (rw [if_pos c, if_pos (by omega), show i + (z - j) = i + k by omega]); (rw [if_neg c]; by_cases c2 : j ≤ z ∧ z < j + k; (rw [if_pos c2, if_pos (by omega)]); (rw [if_neg c2, if_neg (by omega)]))) (by omega)
  exact L3 _ _ _ (by omega) (by funext z; exact (if_neg (by omega)).symm) (Nat.lt_succ_self _)
set_option maxHeartbeats 4000000 in
set_option maxRecDepth 100000 in
theorem c_X6_saves (l : Launch) (D : va_G) (cA : Nat → ClassId) (a : Nat → Nat) (G M V : Int → Int) (hc : 0 ≤ G 0 ∧ G 0 ≤ 4) : MV (U := Int → Int) l yX6_saves cX6_saves 2 none (rmN 2 0 0) D cA [.ref (a 0)] [mO a G, [(a 1, aJ (cA 0) 325 M)], [(a 3, aJ (cA 0) 1300 V)]] (fun u => (G 0 < 4 → u = cpA M V 0 (325 * G 0) 325) ∧ (G 0 = 4 → ∀ k : Int, 0 ≤ k → k < 1300 → u k = if k < 975 then V (k + 325) else M (k - 975))) (fun u => [mO a (st G 0 (if G 0 < 4 then G 0 + 1 else 4)), [(a 1, aJ (cA 0) 325 M)], [(a 3, aJ (cA 0) 1300 u)]]) := by
  refine m_startV pn_X6 rfl (List.forall_mem_cons.mpr ⟨rfl, fun _ h => absurd h List.not_mem_nil⟩) (Nat.le_of_ble_eq_true rfl) ?_
  intro K C e1 e2 e3 hin hR
  subst e1 e2 e3
  show J K 0 0 [mO a G, [(a 1, aJ ((kC K) 0) 325 M)], [(a 3, aJ ((kC K) 0) 1300 V)]] [some (.ref (a 0)), none] 0 []
  have L49 : ∀ (G1 V2 : Int → Int) (hG1 : G1 0 = (if G 0 < 4 then G 0 else 3) ∧ st G1 0 (G1 0 + 1) = st G 0 (if G 0 < 4 then G 0 + 1 else 4)) (hV2 : (G 0 < 4 → V2 = V) ∧ (G 0 = 4 → ∀ z : Int, V2 z = if 0 ≤ z ∧ z < 975 then V (z + 325) else V z)), J K 0 0 [mO a G1, [(a 1, aJ ((kC K) 0) 325 M)], [(a 3, aJ ((kC K) 0) 1300 V2)]] [some (.ref (a 0)), none] 49 [] := by
    intro G1 V2 hG1 hV2
    refine j_aload_n C dX6_saves_49 rfl ?_
    refine j_get C 0 0 0 rfl rfl rfl wU_X6 (by decide) wF_X6_7 rfl dX6_saves_50 ?_
    refine j_iconst C dX6_saves_53 ?_
    refine j_aload_n C dX6_saves_54 rfl ?_
    refine j_get C 0 0 2 rfl rfl rfl wU_X6 (by decide) wF_X6_16 rfl dX6_saves_55 ?_
    refine j_sipush C dX6_saves_58 (by decide) ?_
    refine j_aload_n C dX6_saves_61 rfl ?_
    refine j_get C 0 0 3 rfl rfl rfl wU_X6 (by decide) wF_X6_72 rfl dX6_saves_62 ?_
    refine j_imul C dX6_saves_65 ?_
    refine j_perm (pm_3_1_2 _ _ _) ?_
    refine j_callSv C (As := [.ref _, .int (iI _), .ref _, .int (iI _)]) (c_X6_copies _ _ _ _ _ _ _ _ _ _ _ (by omega) (by omega) (by omega)) 4 nf_X6_copies.2 wL_X6_75 wS_X6_copies wIn_X6 wC_X6_copies rfl rfl (by decide) dX6_saves_66 (Nat.le_of_ble_eq_true rfl) ⟨Nat.le_of_ble_eq_true rfl, Nat.le_of_ble_eq_true rfl⟩ (fun u66 h66 => ?_)
    refine j_perm (pr_3_1_2 _ _ _) ?_
    refine j_aload_n C dX6_saves_69 rfl ?_
    refine j_dup C dX6_saves_70 rfl ?_
    refine j_get C 0 0 3 rfl rfl rfl wU_X6 (by decide) wF_X6_72 rfl dX6_saves_71 ?_
    refine j_iconst C dX6_saves_74 ?_
    refine j_iadd C dX6_saves_75 ?_
    refine j_put_p0 C 0 3 rfl mO_put0 rfl wU_X6 tyX6_ok nmX6 (by decide) wF_X6_72 rfl rfl rfl (Nat.le_of_ble_eq_true rfl) dX6_saves_76 ?_
    refine hR (cpA M V2 0 (325 * G1 0) 325) dX6_saves_79 ?_ (by rw [hG1.2]) (Nat.le_of_ble_eq_true rfl) (Nat.le_of_ble_eq_true rfl)
    refine ⟨fun q => ?_, fun q k k0 k1 => ?_⟩
    · rw [hV2.1 q, hG1.1, if_pos q]
    · have e3 : G1 0 = 3 := by rw [hG1.1, if_neg (by omega)]
      unfold cpA
      rw [e3]
      by_cases c : k < 975
      · rw [if_pos c, if_neg (by omega), hV2.2 q, if_pos (by omega)]
      · rw [if_neg c, if_pos (by omega), show 0 + (k - 325 * 3) = k - 975 by omega]
  refine j_aload_n C dX6_saves_0 rfl ?_
  refine j_get C 0 0 3 rfl rfl rfl wU_X6 (by decide) wF_X6_72 rfl dX6_saves_1 ?_
  refine j_iconst C dX6_saves_4 ?_
  refine j_icmp_ne (tgt := 49) C dX6_saves_5 (by decide) (by omega) (by omega) (by omega) (by omega) (fun c5 => ?_) (fun c5 => ?_)
  · exact L49 _ _ (by first | (rw [if_pos (by omega), if_pos (by omega)]; exact ⟨rfl, rfl⟩) | (rw [if_neg (by omega), if_neg (by omega)]; exact ⟨by rw [st_s]; omega, by rw [st_s, st_st, show G 0 - 1 + 1 = 4 by omega]⟩)) (by first | exact ⟨fun q => by omega, fun _ => by rw [show k = 975 by omega] at hV; exact hV⟩ | exact ⟨fun _ => rfl, fun q => by omega⟩)
  · refine j_iconst C dX6_saves_8 ?_
    refine j_istn_1 C dX6_saves_9 rfl ?_
    have L10 : ∀ (fuel : Nat) (k : Int) (V1 : Int → Int) (hk : 0 ≤ k ∧ k ≤ 975) (hV : ∀ z : Int, V1 z = if 0 ≤ z ∧ z < k then V (z + 325) else V z) (hf10 : (975 - k).toNat < fuel), J K 0 0 [mO a G, [(a 1, aJ ((kC K) 0) 325 M)], [(a 3, aJ ((kC K) 0) 1300 V1)]] [some (.ref (a 0)), some (.int (iI k))] 10 [] := by
      intro fuel
      induction fuel with
      | zero => intro k V1 hk hV hf10; exact absurd hf10 (Nat.not_lt_zero _)
      | succ fuel ih10 =>
        intro k V1 hk hV hf10
        refine j_iload_n C dX6_saves_10 rfl ?_
        refine j_sipush C dX6_saves_11 (by decide) ?_
        refine j_icmp_ge (tgt := 39) C dX6_saves_14 (by decide) (by omega) (by omega) (by omega) (by omega) (fun c14 => ?_) (fun c14 => ?_)
        · refine j_aload_n C dX6_saves_39 rfl ?_
          refine j_dup C dX6_saves_40 rfl ?_
          refine j_get C 0 0 3 rfl rfl rfl wU_X6 (by decide) wF_X6_72 rfl dX6_saves_41 ?_
          refine j_iconst C dX6_saves_44 ?_
          refine j_isub C dX6_saves_45 ?_
          refine j_put_p0 C 0 3 rfl mO_put0 rfl wU_X6 tyX6_ok nmX6 (by decide) wF_X6_72 rfl rfl rfl (Nat.le_of_ble_eq_true rfl) dX6_saves_46 ?_
          exact j_lle (lv' := [_, none]) ⟨Or.inr rfl, ⟨Or.inl rfl, trivial⟩⟩ (L49 _ _ (by first | (rw [if_pos (by omega), if_pos (by omega)]; exact ⟨rfl, rfl⟩) | (rw [if_neg (by omega), if_neg (by omega)]; exact ⟨by rw [st_s]; omega, by rw [st_s, st_st, show G 0 - 1 + 1 = 4 by omega]⟩)) (by first | exact ⟨fun q => by omega, fun _ => by rw [show k = 975 by omega] at hV; exact hV⟩ | exact ⟨fun _ => rfl, fun q => by omega⟩))
        · refine j_aload_n C dX6_saves_17 rfl ?_
          refine j_get C 0 0 2 rfl rfl rfl wU_X6 (by decide) wF_X6_16 rfl dX6_saves_18 ?_
          refine j_iload_n C dX6_saves_21 rfl ?_
          refine j_aload_n C dX6_saves_22 rfl ?_
          refine j_get C 0 0 2 rfl rfl rfl wU_X6 (by decide) wF_X6_16 rfl dX6_saves_23 ?_
          refine j_iload_n C dX6_saves_26 rfl ?_
          refine j_sipush C dX6_saves_27 (by decide) ?_
          refine j_iadd C dX6_saves_30 ?_
          refine j_iald C 2 0 rfl rfl dX6_saves_31 (by decide) (by omega) (by omega) ?_
          refine j_iast_p2 C 0 rfl ar1_ast dX6_saves_32 (by decide) (by omega) (by omega) ?_
          refine j_iinc_1 C dX6_saves_33 rfl ?_
          refine j_goto (tgt := 10) C dX6_saves_36 (by decide) ?_
          exact ih10 _ _ (by omega) (by intro z; by_cases c : z = k; (subst c; rw [st_s, if_pos (by omega), hV, if_neg (by omega)]); (rw [st_n c, hV]; by_cases c2 : 0 ≤ z ∧ z < k; (rw [if_pos c2, if_pos (by omega)]); (rw [if_neg c2, if_neg (by omega)]))) (by omega)
    exact L10 _ _ _ (by omega) (by intro z; rw [if_neg (by omega)]) (Nat.lt_succ_self _)
