theorem pm_1_0 (B0 : va_W) : [B0].Perm ([B0] ++ []) := List.Perm.refl _
theorem pr_1_0 (B0 : va_W) : ([B0] ++ []).Perm [B0] := (pm_1_0 B0).symm
set_option maxHeartbeats 4000000 in
set_option maxRecDepth 100000 in
theorem c_X5_isSlot (l : Launch) (D : va_G) (cA : Nat → ClassId) (p : Int) (hp : -2147483648 ≤ p ∧ p < 2147483648) : MI (U := Unit) l yX5_isSlot cX5_isSlot 1 (some .boolean) (rmN 1 0 0) D cA [.int (iI p)] [] (fun x _ => x = if 0 ≤ p ∧ p < 40 then 1 else 0) (fun _ => []) := by
  refine m_startZ pn_X5 rfl (List.forall_mem_cons.mpr ⟨rfl, fun _ h => absurd h List.not_mem_nil⟩) (Nat.le_of_ble_eq_true rfl) ?_
  intro K C e1 e2 e3 hin hR
  subst e1 e2 e3
  show J K 0 0 [] [some (.int (iI p))] 0 []
  refine j_iload_n C dX5_isSlot_0 rfl ?_
  refine j_if_lt (tgt := 14) C dX5_isSlot_1 (by decide) (by omega) (by omega) (fun c1 => ?_) (fun c1 => ?_)
  · refine j_iconst C dX5_isSlot_14 ?_
    exact hR () dX5_isSlot_15 (by omega) (by first | trivial | omega | rfl) rfl (Nat.le_of_ble_eq_true rfl) (Nat.le_of_ble_eq_true rfl)
  · refine j_iload_n C dX5_isSlot_4 rfl ?_
    refine j_bipush C dX5_isSlot_5 (by decide) ?_
    refine j_icmp_ge (tgt := 14) C dX5_isSlot_7 (by decide) (by omega) (by omega) (by omega) (by omega) (fun c7 => ?_) (fun c7 => ?_)
    · refine j_iconst C dX5_isSlot_14 ?_
      exact hR () dX5_isSlot_15 (by omega) (by first | trivial | omega | rfl) rfl (Nat.le_of_ble_eq_true rfl) (Nat.le_of_ble_eq_true rfl)
    · refine j_iconst C dX5_isSlot_10 ?_
      refine j_goto (tgt := 15) C dX5_isSlot_11 (by decide) ?_
      exact hR () dX5_isSlot_15 (by omega) (by first | trivial | omega | rfl) rfl (Nat.le_of_ble_eq_true rfl) (Nat.le_of_ble_eq_true rfl)
set_option maxHeartbeats 4000000 in
set_option maxRecDepth 100000 in
theorem c_X5_isPair (l : Launch) (D : va_G) (cA : Nat → ClassId) (p : Int) (hp : -2147483648 ≤ p ∧ p < 2147483648) : MI (U := Unit) l yX5_isPair cX5_isPair 1 (some .boolean) (rmN 1 0 0) D cA [.int (iI p)] [] (fun x _ => x = if 0 ≤ p ∧ p < 49 then 1 else 0) (fun _ => []) := by
  refine m_startZ pn_X5 rfl (List.forall_mem_cons.mpr ⟨rfl, fun _ h => absurd h List.not_mem_nil⟩) (Nat.le_of_ble_eq_true rfl) ?_
  intro K C e1 e2 e3 hin hR
  subst e1 e2 e3
  show J K 0 0 [] [some (.int (iI p))] 0 []
  refine j_iload_n C dX5_isPair_0 rfl ?_
  refine j_if_lt (tgt := 14) C dX5_isPair_1 (by decide) (by omega) (by omega) (fun c1 => ?_) (fun c1 => ?_)
  · refine j_iconst C dX5_isPair_14 ?_
    exact hR () dX5_isPair_15 (by omega) (by first | trivial | omega | rfl) rfl (Nat.le_of_ble_eq_true rfl) (Nat.le_of_ble_eq_true rfl)
  · refine j_iload_n C dX5_isPair_4 rfl ?_
    refine j_bipush C dX5_isPair_5 (by decide) ?_
    refine j_icmp_ge (tgt := 14) C dX5_isPair_7 (by decide) (by omega) (by omega) (by omega) (by omega) (fun c7 => ?_) (fun c7 => ?_)
    · refine j_iconst C dX5_isPair_14 ?_
      exact hR () dX5_isPair_15 (by omega) (by first | trivial | omega | rfl) rfl (Nat.le_of_ble_eq_true rfl) (Nat.le_of_ble_eq_true rfl)
    · refine j_iconst C dX5_isPair_10 ?_
      refine j_goto (tgt := 15) C dX5_isPair_11 (by decide) ?_
      exact hR () dX5_isPair_15 (by omega) (by first | trivial | omega | rfl) rfl (Nat.le_of_ble_eq_true rfl) (Nat.le_of_ble_eq_true rfl)
set_option maxHeartbeats 4000000 in
set_option maxRecDepth 100000 in
theorem c_X5_isParty (l : Launch) (D : va_G) (cA : Nat → ClassId) (p : Int) (hp : -2147483648 ≤ p ∧ p < 2147483648) : MI (U := Unit) l yX5_isParty cX5_isParty 1 (some .boolean) (rmN 1 0 0) D cA [.int (iI p)] [] (fun x _ => x = if 0 ≤ p ∧ p < 7 then 1 else 0) (fun _ => []) := by
  refine m_startZ pn_X5 rfl (List.forall_mem_cons.mpr ⟨rfl, fun _ h => absurd h List.not_mem_nil⟩) (Nat.le_of_ble_eq_true rfl) ?_
  intro K C e1 e2 e3 hin hR
  subst e1 e2 e3
  show J K 0 0 [] [some (.int (iI p))] 0 []
  refine j_iload_n C dX5_isParty_0 rfl ?_
  refine j_if_lt (tgt := 14) C dX5_isParty_1 (by decide) (by omega) (by omega) (fun c1 => ?_) (fun c1 => ?_)
  · refine j_iconst C dX5_isParty_14 ?_
    exact hR () dX5_isParty_15 (by omega) (by first | trivial | omega | rfl) rfl (Nat.le_of_ble_eq_true rfl) (Nat.le_of_ble_eq_true rfl)
  · refine j_iload_n C dX5_isParty_4 rfl ?_
    refine j_bipush C dX5_isParty_5 (by decide) ?_
    refine j_icmp_ge (tgt := 14) C dX5_isParty_7 (by decide) (by omega) (by omega) (by omega) (by omega) (fun c7 => ?_) (fun c7 => ?_)
    · refine j_iconst C dX5_isParty_14 ?_
      exact hR () dX5_isParty_15 (by omega) (by first | trivial | omega | rfl) rfl (Nat.le_of_ble_eq_true rfl) (Nat.le_of_ble_eq_true rfl)
    · refine j_iconst C dX5_isParty_10 ?_
      refine j_goto (tgt := 15) C dX5_isParty_11 (by decide) ?_
      exact hR () dX5_isParty_15 (by omega) (by first | trivial | omega | rfl) rfl (Nat.le_of_ble_eq_true rfl) (Nat.le_of_ble_eq_true rfl)
set_option maxHeartbeats 4000000 in
set_option maxRecDepth 100000 in
theorem c_X0_hasParty (l : Launch) (D : va_G) (cA : Nat → ClassId) (b : Nat → Nat) (S : Int → Int) (p : Int) (hp : -2147483648 ≤ p ∧ p < 2147483648) (hP : 2 ≤ S 0 ∧ S 0 ≤ 7) : MI (U := Unit) l yX0_hasParty cX0_hasParty 2 (some .boolean) (rmN 1 0 0) D cA [.ref (b 0), .int (iI p)] [bk cA b S] (fun x _ => x = if 0 ≤ p ∧ p < S 0 then 1 else 0) (fun _ => [bk cA b S]) := by
  refine m_startZ pn_X0 rfl (List.forall_mem_cons.mpr ⟨rfl, List.forall_mem_cons.mpr ⟨rfl, fun _ h => absurd h List.not_mem_nil⟩⟩) (Nat.le_of_ble_eq_true rfl) ?_
  intro K C e1 e2 e3 hin hR
  subst e1 e2 e3
  show J K 0 0 [bk (kC K) b S] [some (.ref (b 0)), some (.int (iI p))] 0 []
  refine j_iload_n C dX0_hasParty_0 rfl ?_
  refine j_if_lt (tgt := 16) C dX0_hasParty_1 (by decide) (by omega) (by omega) (fun c1 => ?_) (fun c1 => ?_)
  · refine j_iconst C dX0_hasParty_16 ?_
    exact hR () dX0_hasParty_17 (by omega) (by first | trivial | omega | rfl) rfl (Nat.le_of_ble_eq_true rfl) (Nat.le_of_ble_eq_true rfl)
  · refine j_iload_n C dX0_hasParty_4 rfl ?_
    refine j_aload_n C dX0_hasParty_5 rfl ?_
    refine j_get C 0 0 0 rfl rfl rfl wU_X0 (by decide) wF_X0_9 rfl dX0_hasParty_6 ?_
    refine j_icmp_ge (tgt := 16) C dX0_hasParty_9 (by decide) (by omega) (by omega) (by omega) (by omega) (fun c9 => ?_) (fun c9 => ?_)
    · refine j_iconst C dX0_hasParty_16 ?_
      exact hR () dX0_hasParty_17 (by omega) (by first | trivial | omega | rfl) rfl (Nat.le_of_ble_eq_true rfl) (Nat.le_of_ble_eq_true rfl)
    · refine j_iconst C dX0_hasParty_12 ?_
      refine j_goto (tgt := 17) C dX0_hasParty_13 (by decide) ?_
      exact hR () dX0_hasParty_17 (by omega) (by first | trivial | omega | rfl) rfl (Nat.le_of_ble_eq_true rfl) (Nat.le_of_ble_eq_true rfl)
set_option maxHeartbeats 4000000 in
set_option maxRecDepth 100000 in
theorem c_X0_holds (l : Launch) (D : va_G) (cA : Nat → ClassId) (b : Nat → Nat) (S : Int → Int) (p : Int) (hp : -2147483648 ≤ p ∧ p < 2147483648) (hN : 0 ≤ S 1 ∧ S 1 ≤ 40) : MI (U := Unit) l yX0_holds cX0_holds 2 (some .boolean) (rmN 1 0 0) D cA [.ref (b 0), .int (iI p)] [bk cA b S] (fun x _ => x = if 0 ≤ p ∧ p < S 1 then 1 else 0) (fun _ => [bk cA b S]) := by
  refine m_startZ pn_X0 rfl (List.forall_mem_cons.mpr ⟨rfl, List.forall_mem_cons.mpr ⟨rfl, fun _ h => absurd h List.not_mem_nil⟩⟩) (Nat.le_of_ble_eq_true rfl) ?_
  intro K C e1 e2 e3 hin hR
  subst e1 e2 e3
  show J K 0 0 [bk (kC K) b S] [some (.ref (b 0)), some (.int (iI p))] 0 []
  refine j_iload_n C dX0_holds_0 rfl ?_
  refine j_if_lt (tgt := 16) C dX0_holds_1 (by decide) (by omega) (by omega) (fun c1 => ?_) (fun c1 => ?_)
  · refine j_iconst C dX0_holds_16 ?_
    exact hR () dX0_holds_17 (by omega) (by first | trivial | omega | rfl) rfl (Nat.le_of_ble_eq_true rfl) (Nat.le_of_ble_eq_true rfl)
  · refine j_iload_n C dX0_holds_4 rfl ?_
    refine j_aload_n C dX0_holds_5 rfl ?_
    refine j_get C 0 0 1 rfl rfl rfl wU_X0 (by decide) wF_X0_41 rfl dX0_holds_6 ?_
    refine j_icmp_ge (tgt := 16) C dX0_holds_9 (by decide) (by omega) (by omega) (by omega) (by omega) (fun c9 => ?_) (fun c9 => ?_)
    · refine j_iconst C dX0_holds_16 ?_
      exact hR () dX0_holds_17 (by omega) (by first | trivial | omega | rfl) rfl (Nat.le_of_ble_eq_true rfl) (Nat.le_of_ble_eq_true rfl)
    · refine j_iconst C dX0_holds_12 ?_
      refine j_goto (tgt := 17) C dX0_holds_13 (by decide) ?_
      exact hR () dX0_holds_17 (by omega) (by first | trivial | omega | rfl) rfl (Nat.le_of_ble_eq_true rfl) (Nat.le_of_ble_eq_true rfl)
set_option maxHeartbeats 4000000 in
set_option maxRecDepth 100000 in
theorem c_X0_isFull (l : Launch) (D : va_G) (cA : Nat → ClassId) (b : Nat → Nat) (S : Int → Int) (hN : 0 ≤ S 1 ∧ S 1 ≤ 40) : MI (U := Unit) l yX0_isFull cX0_isFull 1 (some .boolean) (rmN 1 0 0) D cA [.ref (b 0)] [bk cA b S] (fun x _ => x = if 40 ≤ S 1 then 1 else 0) (fun _ => [bk cA b S]) := by
  refine m_startZ pn_X0 rfl (List.forall_mem_cons.mpr ⟨rfl, fun _ h => absurd h List.not_mem_nil⟩) (Nat.le_of_ble_eq_true rfl) ?_
  intro K C e1 e2 e3 hin hR
  subst e1 e2 e3
  show J K 0 0 [bk (kC K) b S] [some (.ref (b 0))] 0 []
  refine j_aload_n C dX0_isFull_0 rfl ?_
  refine j_get C 0 0 1 rfl rfl rfl wU_X0 (by decide) wF_X0_41 rfl dX0_isFull_1 ?_
  refine j_bipush C dX0_isFull_4 (by decide) ?_
  refine j_icmp_lt (tgt := 13) C dX0_isFull_6 (by decide) (by omega) (by omega) (by omega) (by omega) (fun c6 => ?_) (fun c6 => ?_)
  · refine j_iconst C dX0_isFull_13 ?_
    exact hR () dX0_isFull_14 (by omega) (by first | trivial | omega | rfl) rfl (Nat.le_of_ble_eq_true rfl) (Nat.le_of_ble_eq_true rfl)
  · refine j_iconst C dX0_isFull_9 ?_
    refine j_goto (tgt := 14) C dX0_isFull_10 (by decide) ?_
    exact hR () dX0_isFull_14 (by omega) (by first | trivial | omega | rfl) rfl (Nat.le_of_ble_eq_true rfl) (Nat.le_of_ble_eq_true rfl)
set_option maxHeartbeats 4000000 in
set_option maxRecDepth 100000 in
theorem c_X0_isOwing (l : Launch) (D : va_G) (cA : Nat → ClassId) (b : Nat → Nat) (S : Int → Int) (i : Int) (hI : Inv S) (hi : 0 ≤ i ∧ i < S 1) : MI (U := Unit) l yX0_isOwing cX0_isOwing 2 (some .boolean) (rmN 1 0 0) D cA [.ref (b 0), .int (iI i)] [bk cA b S] (fun x _ => x = if 0 < am S i ∧ di S i = 0 then 1 else 0) (fun _ => [bk cA b S]) := by
  refine m_startZ pn_X0 rfl (List.forall_mem_cons.mpr ⟨rfl, List.forall_mem_cons.mpr ⟨rfl, fun _ h => absurd h List.not_mem_nil⟩⟩) (Nat.le_of_ble_eq_true rfl) ?_
  intro K C e1 e2 e3 hin hR
  subst e1 e2 e3
  have hN := hI.2.1
  have f := hI.2.2 i hi.1 hi.2
  show J K 0 0 [bk (kC K) b S] [some (.ref (b 0)), some (.int (iI i))] 0 []
  refine j_aload_n C dX0_isOwing_0 rfl ?_
  refine j_get C 0 0 7 rfl rfl rfl wU_X0 (by decide) wF_X0_22 rfl dX0_isOwing_1 ?_
  refine j_iload_n C dX0_isOwing_4 rfl ?_
  refine j_iald C 0 3 rfl rfl dX0_isOwing_5 (by decide) (by omega) (by omega) ?_
  refine j_if_le (tgt := 22) C dX0_isOwing_6 (by decide) (by omega) (by omega) (fun c6 => ?_) (fun c6 => ?_)
  · refine j_iconst C dX0_isOwing_22 ?_
    exact hR () dX0_isOwing_23 (by omega) (by first | trivial | omega | rfl) rfl (Nat.le_of_ble_eq_true rfl) (Nat.le_of_ble_eq_true rfl)
  · refine j_aload_n C dX0_isOwing_9 rfl ?_
    refine j_get C 0 0 12 rfl rfl rfl wU_X0 (by decide) wF_X0_37 rfl dX0_isOwing_10 ?_
    refine j_iload_n C dX0_isOwing_13 rfl ?_
    refine j_zald C 0 8 rfl rfl dX0_isOwing_14 (by decide) (by omega) (by omega) ?_
    refine j_if_ne (tgt := 22) C dX0_isOwing_15 (by decide) (by omega) (by omega) (fun c15 => ?_) (fun c15 => ?_)
    · refine j_iconst C dX0_isOwing_22 ?_
      exact hR () dX0_isOwing_23 (by omega) (by first | trivial | omega | rfl) rfl (Nat.le_of_ble_eq_true rfl) (Nat.le_of_ble_eq_true rfl)
    · refine j_iconst C dX0_isOwing_18 ?_
      refine j_goto (tgt := 23) C dX0_isOwing_19 (by decide) ?_
      exact hR () dX0_isOwing_23 (by omega) (by first | trivial | omega | rfl) rfl (Nat.le_of_ble_eq_true rfl) (Nat.le_of_ble_eq_true rfl)
set_option maxHeartbeats 4000000 in
set_option maxRecDepth 100000 in
theorem c_X0_canBeDisputed (l : Launch) (D : va_G) (cA : Nat → ClassId) (b : Nat → Nat) (S : Int → Int) (i : Int) (hI : Inv S) (hi : -2147483648 ≤ i ∧ i < 2147483648) : MI (U := Unit) l yX0_canBeDisputed cX0_canBeDisputed 2 (some .boolean) (rmN 2 0 0) D cA [.ref (b 0), .int (iI i)] [bk cA b S] (fun x _ => x = if (0 ≤ i ∧ i < S 1) ∧ 0 < am S i ∧ di S i = 0 then 1 else 0) (fun _ => [bk cA b S]) := by
  refine m_startZ pn_X0 rfl (List.forall_mem_cons.mpr ⟨rfl, List.forall_mem_cons.mpr ⟨rfl, fun _ h => absurd h List.not_mem_nil⟩⟩) (Nat.le_of_ble_eq_true rfl) ?_
  intro K C e1 e2 e3 hin hR
  subst e1 e2 e3
  have hN := hI.2.1
  show J K 0 0 [bk (kC K) b S] [some (.ref (b 0)), some (.int (iI i))] 0 []
  refine j_aload_n C dX0_canBeDisputed_0 rfl ?_
  refine j_iload_n C dX0_canBeDisputed_1 rfl ?_
  refine j_perm (pm_1_0 _) ?_
  refine j_callVi C (As := [.int (iI _)]) (c_X0_holds _ _ _ _ _ _ (by first | assumption | omega) (by first | assumption | omega)) 1 nf_X0_holds (jb := 0) rfl rfl wL_X0_63 wI_X0_holds wSe_X0_X0_holds wIn_X0 wC_X0_holds rfl rfl (by decide) dX0_canBeDisputed_2 (Nat.le_of_ble_eq_true rfl) ⟨Nat.le_of_ble_eq_true rfl, Nat.le_of_ble_eq_true rfl⟩ (fun x2 u2 h2 => ?_)
  refine j_perm (pr_1_0 _) ?_
  refine j_if_eq (tgt := 20) C dX0_canBeDisputed_5 (by decide) (by omega) (by omega) (fun c5 => ?_) (fun c5 => ?_)
  · refine j_iconst C dX0_canBeDisputed_20 ?_
    exact hR () dX0_canBeDisputed_21 (by omega) (by first | trivial | omega | rfl) rfl (Nat.le_of_ble_eq_true rfl) (Nat.le_of_ble_eq_true rfl)
  · refine j_aload_n C dX0_canBeDisputed_8 rfl ?_
    refine j_iload_n C dX0_canBeDisputed_9 rfl ?_
    refine j_perm (pm_1_0 _) ?_
    refine j_callVi C (As := [.int (iI _)]) (c_X0_isOwing _ _ _ _ _ _ (by first | assumption | omega) (by first | assumption | omega)) 1 nf_X0_isOwing (jb := 0) rfl rfl wL_X0_66 wI_X0_isOwing wSe_X0_X0_isOwing wIn_X0 wC_X0_isOwing rfl rfl (by decide) dX0_canBeDisputed_10 (Nat.le_of_ble_eq_true rfl) ⟨Nat.le_of_ble_eq_true rfl, Nat.le_of_ble_eq_true rfl⟩ (fun x10 u10 h10 => ?_)
    refine j_perm (pr_1_0 _) ?_
    refine j_if_eq (tgt := 20) C dX0_canBeDisputed_13 (by decide) (by omega) (by omega) (fun c13 => ?_) (fun c13 => ?_)
    · refine j_iconst C dX0_canBeDisputed_20 ?_
      exact hR () dX0_canBeDisputed_21 (by omega) (by first | trivial | omega | rfl) rfl (Nat.le_of_ble_eq_true rfl) (Nat.le_of_ble_eq_true rfl)
    · refine j_iconst C dX0_canBeDisputed_16 ?_
      refine j_goto (tgt := 21) C dX0_canBeDisputed_17 (by decide) ?_
      exact hR () dX0_canBeDisputed_21 (by omega) (by first | trivial | omega | rfl) rfl (Nat.le_of_ble_eq_true rfl) (Nat.le_of_ble_eq_true rfl)
set_option maxHeartbeats 4000000 in
set_option maxRecDepth 100000 in
theorem c_X0_pairOf (l : Launch) (D : va_G) (cA : Nat → ClassId) (b : Nat → Nat) (S : Int → Int) (i : Int) (hI : Inv S) (hi : 0 ≤ i ∧ i < S 1) : MI (U := Unit) l yX0_pairOf cX0_pairOf 2 (some .int) (rmN 1 0 0) D cA [.ref (b 0), .int (iI i)] [bk cA b S] (fun x _ => x = fr S i * 7 + tO S i) (fun _ => [bk cA b S]) := by
  refine m_startI pn_X0 rfl (List.forall_mem_cons.mpr ⟨rfl, List.forall_mem_cons.mpr ⟨rfl, fun _ h => absurd h List.not_mem_nil⟩⟩) (Nat.le_of_ble_eq_true rfl) ?_
  intro K C e1 e2 e3 hin hR
  subst e1 e2 e3
  have hN := hI.2.1
  show J K 0 0 [bk (kC K) b S] [some (.ref (b 0)), some (.int (iI i))] 0 []
  refine j_aload_n C dX0_pairOf_0 rfl ?_
  refine j_get C 0 0 5 rfl rfl rfl wU_X0 (by decide) wF_X0_15 rfl dX0_pairOf_1 ?_
  refine j_iload_n C dX0_pairOf_4 rfl ?_
  refine j_iald C 0 1 rfl rfl dX0_pairOf_5 (by decide) (by omega) (by omega) ?_
  refine j_bipush C dX0_pairOf_6 (by decide) ?_
  refine j_imul C dX0_pairOf_8 ?_
  refine j_aload_n C dX0_pairOf_9 rfl ?_
  refine j_get C 0 0 6 rfl rfl rfl wU_X0 (by decide) wF_X0_19 rfl dX0_pairOf_10 ?_
  refine j_iload_n C dX0_pairOf_13 rfl ?_
  refine j_iald C 0 2 rfl rfl dX0_pairOf_14 (by decide) (by omega) (by omega) ?_
  refine j_iadd C dX0_pairOf_15 ?_
  exact hR () dX0_pairOf_16 (by first | trivial | omega | rfl) rfl (Nat.le_of_ble_eq_true rfl) (Nat.le_of_ble_eq_true rfl)
set_option maxHeartbeats 4000000 in
set_option maxRecDepth 100000 in
theorem c_X0_costOf (l : Launch) (D : va_G) (cA : Nat → ClassId) (b : Nat → Nat) (S : Int → Int) (i : Int) (hN : 0 ≤ S 1 ∧ S 1 ≤ 40) (hi : 0 ≤ i ∧ i < S 1) : MI (U := Unit) l yX0_costOf cX0_costOf 2 (some .int) (rmN 1 0 0) D cA [.ref (b 0), .int (iI i)] [bk cA b S] (fun x _ => x = am S i * ra S i) (fun _ => [bk cA b S]) := by
  refine m_startI pn_X0 rfl (List.forall_mem_cons.mpr ⟨rfl, List.forall_mem_cons.mpr ⟨rfl, fun _ h => absurd h List.not_mem_nil⟩⟩) (Nat.le_of_ble_eq_true rfl) ?_
  intro K C e1 e2 e3 hin hR
  subst e1 e2 e3
  show J K 0 0 [bk (kC K) b S] [some (.ref (b 0)), some (.int (iI i))] 0 []
  refine j_aload_n C dX0_costOf_0 rfl ?_
  refine j_get C 0 0 7 rfl rfl rfl wU_X0 (by decide) wF_X0_22 rfl dX0_costOf_1 ?_
  refine j_iload_n C dX0_costOf_4 rfl ?_
  refine j_iald C 0 3 rfl rfl dX0_costOf_5 (by decide) (by omega) (by omega) ?_
  refine j_aload_n C dX0_costOf_6 rfl ?_
  refine j_get C 0 0 8 rfl rfl rfl wU_X0 (by decide) wF_X0_25 rfl dX0_costOf_7 ?_
  refine j_iload_n C dX0_costOf_10 rfl ?_
  refine j_iald C 0 4 rfl rfl dX0_costOf_11 (by decide) (by omega) (by omega) ?_
  refine j_imul C dX0_costOf_12 ?_
  exact hR () dX0_costOf_13 (by first | trivial | omega | rfl) rfl (Nat.le_of_ble_eq_true rfl) (Nat.le_of_ble_eq_true rfl)
set_option maxHeartbeats 4000000 in
set_option maxRecDepth 100000 in
theorem c_X0_sumOfAmounts (l : Launch) (D : va_G) (cA : Nat → ClassId) (b : Nat → Nat) (S : Int → Int) (hN : 0 ≤ S 1 ∧ S 1 ≤ 40) : MI (U := Unit) l yX0_sumOfAmounts cX0_sumOfAmounts 3 (some .int) (rmN 1 0 0) D cA [.ref (b 0)] [bk cA b S] (fun x _ => x = allS S) (fun _ => [bk cA b S]) := by
  refine m_startI pn_X0 rfl (List.forall_mem_cons.mpr ⟨rfl, fun _ h => absurd h List.not_mem_nil⟩) (Nat.le_of_ble_eq_true rfl) ?_
  intro K C e1 e2 e3 hin hR
  subst e1 e2 e3
  show J K 0 0 [bk (kC K) b S] [some (.ref (b 0)), none, none] 0 []
  refine j_iconst C dX0_sumOfAmounts_0 ?_
  refine j_istn_1 C dX0_sumOfAmounts_1 rfl ?_
  refine j_iconst C dX0_sumOfAmounts_2 ?_
  refine j_istn_2 C dX0_sumOfAmounts_3 rfl ?_
  have L4 : ∀ (fuel : Nat) (i s : Int) (hi : 0 ≤ i ∧ i ≤ S 1) (hs : s = sumZ (am S) i) (hf4 : (S 1 - i).toNat < fuel), J K 0 0 [bk (kC K) b S] [some (.ref (b 0)), some (.int (iI s)), some (.int (iI i))] 4 [] := by
    intro fuel
    induction fuel with
    | zero => intro i s hi hs hf4; exact absurd hf4 (Nat.not_lt_zero _)
    | succ fuel ih4 =>
      intro i s hi hs hf4
      refine j_iload_n C dX0_sumOfAmounts_4 rfl ?_
      refine j_aload_n C dX0_sumOfAmounts_5 rfl ?_
      refine j_get C 0 0 1 rfl rfl rfl wU_X0 (by decide) wF_X0_41 rfl dX0_sumOfAmounts_6 ?_
      refine j_icmp_ge (tgt := 27) C dX0_sumOfAmounts_9 (by decide) (by omega) (by omega) (by omega) (by omega) (fun c9 => ?_) (fun c9 => ?_)
      · refine j_iload_n C dX0_sumOfAmounts_27 rfl ?_
        exact hR () dX0_sumOfAmounts_28 (by rw [hs, show i = S 1 by omega]; rfl) rfl (Nat.le_of_ble_eq_true rfl) (Nat.le_of_ble_eq_true rfl)
      · refine j_iload_n C dX0_sumOfAmounts_12 rfl ?_
        refine j_aload_n C dX0_sumOfAmounts_13 rfl ?_
        refine j_get C 0 0 7 rfl rfl rfl wU_X0 (by decide) wF_X0_22 rfl dX0_sumOfAmounts_14 ?_
        refine j_iload_n C dX0_sumOfAmounts_17 rfl ?_
        refine j_iald C 0 3 rfl rfl dX0_sumOfAmounts_18 (by decide) (by omega) (by omega) ?_
        refine j_iadd C dX0_sumOfAmounts_19 ?_
        refine j_istn_1 C dX0_sumOfAmounts_20 rfl ?_
        refine j_iinc_2 C dX0_sumOfAmounts_21 rfl ?_
        refine j_goto (tgt := 4) C dX0_sumOfAmounts_24 (by decide) ?_
        exact ih4 _ _ (by omega) (by rw [hs, sumZ_s _ (by omega)]) (by omega)
  exact L4 _ _ _ (by omega) (by rfl) (Nat.lt_succ_self _)
set_option maxHeartbeats 4000000 in
set_option maxRecDepth 100000 in
theorem c_X0_costOfAll (l : Launch) (D : va_G) (cA : Nat → ClassId) (b : Nat → Nat) (S : Int → Int) (hN : 0 ≤ S 1 ∧ S 1 ≤ 40) : MI (U := Unit) l yX0_costOfAll cX0_costOfAll 3 (some .int) (rmN 2 0 0) D cA [.ref (b 0)] [bk cA b S] (fun x _ => x = cosS S) (fun _ => [bk cA b S]) := by
  refine m_startI pn_X0 rfl (List.forall_mem_cons.mpr ⟨rfl, fun _ h => absurd h List.not_mem_nil⟩) (Nat.le_of_ble_eq_true rfl) ?_
  intro K C e1 e2 e3 hin hR
  subst e1 e2 e3
  show J K 0 0 [bk (kC K) b S] [some (.ref (b 0)), none, none] 0 []
  refine j_iconst C dX0_costOfAll_0 ?_
  refine j_istn_1 C dX0_costOfAll_1 rfl ?_
  refine j_iconst C dX0_costOfAll_2 ?_
  refine j_istn_2 C dX0_costOfAll_3 rfl ?_
  have L4 : ∀ (fuel : Nat) (i s : Int) (hi : 0 ≤ i ∧ i ≤ S 1) (hs : s = sumZ (fun k => am S k * ra S k) i) (hf4 : (S 1 - i).toNat < fuel), J K 0 0 [bk (kC K) b S] [some (.ref (b 0)), some (.int (iI s)), some (.int (iI i))] 4 [] := by
    intro fuel
    induction fuel with
    | zero => intro i s hi hs hf4; exact absurd hf4 (Nat.not_lt_zero _)
    | succ fuel ih4 =>
      intro i s hi hs hf4
      refine j_iload_n C dX0_costOfAll_4 rfl ?_
      refine j_aload_n C dX0_costOfAll_5 rfl ?_
      refine j_get C 0 0 1 rfl rfl rfl wU_X0 (by decide) wF_X0_41 rfl dX0_costOfAll_6 ?_
      refine j_icmp_ge (tgt := 26) C dX0_costOfAll_9 (by decide) (by omega) (by omega) (by omega) (by omega) (fun c9 => ?_) (fun c9 => ?_)
      · refine j_iload_n C dX0_costOfAll_26 rfl ?_
        exact hR () dX0_costOfAll_27 (by rw [hs, show i = S 1 by omega]; rfl) rfl (Nat.le_of_ble_eq_true rfl) (Nat.le_of_ble_eq_true rfl)
      · refine j_iload_n C dX0_costOfAll_12 rfl ?_
        refine j_aload_n C dX0_costOfAll_13 rfl ?_
        refine j_iload_n C dX0_costOfAll_14 rfl ?_
        refine j_perm (pm_1_0 _) ?_
        refine j_callVi C (As := [.int (iI _)]) (c_X0_costOf _ _ _ _ _ _ (by first | assumption | omega) (by first | assumption | omega)) 1 nf_X0_costOf (jb := 0) rfl rfl wL_X0_79 wI_X0_costOf wSe_X0_X0_costOf wIn_X0 wC_X0_costOf rfl rfl (by decide) dX0_costOfAll_15 (Nat.le_of_ble_eq_true rfl) ⟨Nat.le_of_ble_eq_true rfl, Nat.le_of_ble_eq_true rfl⟩ (fun x15 u15 h15 => ?_)
        refine j_perm (pr_1_0 _) ?_
        refine j_iadd C dX0_costOfAll_18 ?_
        refine j_istn_1 C dX0_costOfAll_19 rfl ?_
        refine j_iinc_2 C dX0_costOfAll_20 rfl ?_
        refine j_goto (tgt := 4) C dX0_costOfAll_23 (by decide) ?_
        exact ih4 _ _ (by omega) (by rw [hs, h15, sumZ_s _ (by omega)]) (by omega)
  exact L4 _ _ _ (by omega) (by rfl) (Nat.lt_succ_self _)
set_option maxHeartbeats 4000000 in
set_option maxRecDepth 100000 in
theorem c_X0_countOpen (l : Launch) (D : va_G) (cA : Nat → ClassId) (b : Nat → Nat) (S : Int → Int) (hI : Inv S) : MI (U := Unit) l yX0_countOpen cX0_countOpen 3 (some .int) (rmN 1 0 0) D cA [.ref (b 0)] [bk cA b S] (fun x _ => x = opnS S) (fun _ => [bk cA b S]) := by
  refine m_startI pn_X0 rfl (List.forall_mem_cons.mpr ⟨rfl, fun _ h => absurd h List.not_mem_nil⟩) (Nat.le_of_ble_eq_true rfl) ?_
  intro K C e1 e2 e3 hin hR
  subst e1 e2 e3
  have hN := hI.2.1
  show J K 0 0 [bk (kC K) b S] [some (.ref (b 0)), none, none] 0 []
  refine j_iconst C dX0_countOpen_0 ?_
  refine j_istn_1 C dX0_countOpen_1 rfl ?_
  refine j_iconst C dX0_countOpen_2 ?_
  refine j_istn_2 C dX0_countOpen_3 rfl ?_
  have L4 : ∀ (fuel : Nat) (i s : Int) (hi : 0 ≤ i ∧ i ≤ S 1) (hs : s = sumZ (fun k => if am S k > 0 then 1 else 0) i) (hf4 : (S 1 - i).toNat < fuel), J K 0 0 [bk (kC K) b S] [some (.ref (b 0)), some (.int (iI s)), some (.int (iI i))] 4 [] := by
    intro fuel
    induction fuel with
    | zero => intro i s hi hs hf4; exact absurd hf4 (Nat.not_lt_zero _)
    | succ fuel ih4 =>
      intro i s hi hs hf4
      refine j_iload_n C dX0_countOpen_4 rfl ?_
      refine j_aload_n C dX0_countOpen_5 rfl ?_
      refine j_get C 0 0 1 rfl rfl rfl wU_X0 (by decide) wF_X0_41 rfl dX0_countOpen_6 ?_
      refine j_icmp_ge (tgt := 30) C dX0_countOpen_9 (by decide) (by omega) (by omega) (by omega) (by omega) (fun c9 => ?_) (fun c9 => ?_)
      · refine j_iload_n C dX0_countOpen_30 rfl ?_
        exact hR () dX0_countOpen_31 (by rw [hs, show i = S 1 by omega]; rfl) rfl (Nat.le_of_ble_eq_true rfl) (Nat.le_of_ble_eq_true rfl)
      · have f := hI.2.2 i hi.1 (by omega)
        refine j_aload_n C dX0_countOpen_12 rfl ?_
        refine j_get C 0 0 7 rfl rfl rfl wU_X0 (by decide) wF_X0_22 rfl dX0_countOpen_13 ?_
        refine j_iload_n C dX0_countOpen_16 rfl ?_
        refine j_iald C 0 3 rfl rfl dX0_countOpen_17 (by decide) (by omega) (by omega) ?_
        refine j_if_le (tgt := 24) C dX0_countOpen_18 (by decide) (by omega) (by omega) (fun c18 => ?_) (fun c18 => ?_)
        · refine j_iinc_2 C dX0_countOpen_24 rfl ?_
          refine j_goto (tgt := 4) C dX0_countOpen_27 (by decide) ?_
          exact ih4 _ _ (by omega) (by rw [hs, sumZ_s _ (by omega)]; omega) (by omega)
        · refine j_iinc_1 C dX0_countOpen_21 rfl ?_
          refine j_iinc_2 C dX0_countOpen_24 rfl ?_
          refine j_goto (tgt := 4) C dX0_countOpen_27 (by decide) ?_
          exact ih4 _ _ (by omega) (by rw [hs, sumZ_s _ (by omega)]; omega) (by omega)
  exact L4 _ _ _ (by omega) (by rfl) (Nat.lt_succ_self _)
set_option maxHeartbeats 4000000 in
set_option maxRecDepth 100000 in
theorem c_X0_countDisputed (l : Launch) (D : va_G) (cA : Nat → ClassId) (b : Nat → Nat) (S : Int → Int) (hI : Inv S) : MI (U := Unit) l yX0_countDisputed cX0_countDisputed 3 (some .int) (rmN 1 0 0) D cA [.ref (b 0)] [bk cA b S] (fun x _ => x = disS S) (fun _ => [bk cA b S]) := by
  refine m_startI pn_X0 rfl (List.forall_mem_cons.mpr ⟨rfl, fun _ h => absurd h List.not_mem_nil⟩) (Nat.le_of_ble_eq_true rfl) ?_
  intro K C e1 e2 e3 hin hR
  subst e1 e2 e3
  have hN := hI.2.1
  show J K 0 0 [bk (kC K) b S] [some (.ref (b 0)), none, none] 0 []
  refine j_iconst C dX0_countDisputed_0 ?_
  refine j_istn_1 C dX0_countDisputed_1 rfl ?_
  refine j_iconst C dX0_countDisputed_2 ?_
  refine j_istn_2 C dX0_countDisputed_3 rfl ?_
  have L4 : ∀ (fuel : Nat) (i s : Int) (hi : 0 ≤ i ∧ i ≤ S 1) (hs : s = sumZ (fun k => di S k) i) (hf4 : (S 1 - i).toNat < fuel), J K 0 0 [bk (kC K) b S] [some (.ref (b 0)), some (.int (iI s)), some (.int (iI i))] 4 [] := by
    intro fuel
    induction fuel with
    | zero => intro i s hi hs hf4; exact absurd hf4 (Nat.not_lt_zero _)
    | succ fuel ih4 =>
      intro i s hi hs hf4
      refine j_iload_n C dX0_countDisputed_4 rfl ?_
      refine j_aload_n C dX0_countDisputed_5 rfl ?_
      refine j_get C 0 0 1 rfl rfl rfl wU_X0 (by decide) wF_X0_41 rfl dX0_countDisputed_6 ?_
      refine j_icmp_ge (tgt := 30) C dX0_countDisputed_9 (by decide) (by omega) (by omega) (by omega) (by omega) (fun c9 => ?_) (fun c9 => ?_)
      · refine j_iload_n C dX0_countDisputed_30 rfl ?_
        exact hR () dX0_countDisputed_31 (by rw [hs, show i = S 1 by omega]; rfl) rfl (Nat.le_of_ble_eq_true rfl) (Nat.le_of_ble_eq_true rfl)
      · have f := hI.2.2 i hi.1 (by omega)
        refine j_aload_n C dX0_countDisputed_12 rfl ?_
        refine j_get C 0 0 12 rfl rfl rfl wU_X0 (by decide) wF_X0_37 rfl dX0_countDisputed_13 ?_
        refine j_iload_n C dX0_countDisputed_16 rfl ?_
        refine j_zald C 0 8 rfl rfl dX0_countDisputed_17 (by decide) (by omega) (by omega) ?_
        refine j_if_eq (tgt := 24) C dX0_countDisputed_18 (by decide) (by omega) (by omega) (fun c18 => ?_) (fun c18 => ?_)
        · refine j_iinc_2 C dX0_countDisputed_24 rfl ?_
          refine j_goto (tgt := 4) C dX0_countDisputed_27 (by decide) ?_
          exact ih4 _ _ (by omega) (by rw [hs, sumZ_s _ (by omega)]; omega) (by omega)
        · refine j_iinc_1 C dX0_countDisputed_21 rfl ?_
          refine j_iinc_2 C dX0_countDisputed_24 rfl ?_
          refine j_goto (tgt := 4) C dX0_countDisputed_27 (by decide) ?_
          exact ih4 _ _ (by omega) (by rw [hs, sumZ_s _ (by omega)]; omega) (by omega)
  exact L4 _ _ _ (by omega) (by rfl) (Nat.lt_succ_self _)
set_option maxHeartbeats 4000000 in
set_option maxRecDepth 100000 in
theorem c_X0_netOf (l : Launch) (D : va_G) (cA : Nat → ClassId) (b : Nat → Nat) (S : Int → Int) (p : Int) (hI : Inv S) (hp : -2147483648 ≤ p ∧ p < 2147483648) : MI (U := Unit) l yX0_netOf cX0_netOf 4 (some .int) (rmN 1 0 0) D cA [.ref (b 0), .int (iI p)] [bk cA b S] (fun x _ => x = netS S p) (fun _ => [bk cA b S]) := by
  refine m_startI pn_X0 rfl (List.forall_mem_cons.mpr ⟨rfl, List.forall_mem_cons.mpr ⟨rfl, fun _ h => absurd h List.not_mem_nil⟩⟩) (Nat.le_of_ble_eq_true rfl) ?_
  intro K C e1 e2 e3 hin hR
  subst e1 e2 e3
  have hN := hI.2.1
  have hQ := hI.1
  show J K 0 0 [bk (kC K) b S] [some (.ref (b 0)), some (.int (iI p)), none, none] 0 []
  refine j_iconst C dX0_netOf_0 ?_
  refine j_istn_2 C dX0_netOf_1 rfl ?_
  refine j_iconst C dX0_netOf_2 ?_
  refine j_istn_3 C dX0_netOf_3 rfl ?_
  have L4 : ∀ (fuel : Nat) (i s : Int) (hi : 0 ≤ i ∧ i ≤ S 1) (hs : s = sumZ (netF S p) i) (hf4 : (S 1 - i).toNat < fuel), J K 0 0 [bk (kC K) b S] [some (.ref (b 0)), some (.int (iI p)), some (.int (iI s)), some (.int (iI i))] 4 [] := by
    intro fuel
    induction fuel with
    | zero => intro i s hi hs hf4; exact absurd hf4 (Nat.not_lt_zero _)
    | succ fuel ih4 =>
      intro i s hi hs hf4
      refine j_iload_n C dX0_netOf_4 rfl ?_
      refine j_aload_n C dX0_netOf_5 rfl ?_
      refine j_get C 0 0 1 rfl rfl rfl wU_X0 (by decide) wF_X0_41 rfl dX0_netOf_6 ?_
      refine j_icmp_ge (tgt := 56) C dX0_netOf_9 (by decide) (by omega) (by omega) (by omega) (by omega) (fun c9 => ?_) (fun c9 => ?_)
      · refine j_iload_n C dX0_netOf_56 rfl ?_
        exact hR () dX0_netOf_57 (by rw [hs, show i = S 1 by omega]; rfl) rfl (Nat.le_of_ble_eq_true rfl) (Nat.le_of_ble_eq_true rfl)
      · have f := hI.2.2 i hi.1 (by omega)
        refine j_aload_n C dX0_netOf_12 rfl ?_
        refine j_get C 0 0 6 rfl rfl rfl wU_X0 (by decide) wF_X0_19 rfl dX0_netOf_13 ?_
        refine j_iload_n C dX0_netOf_16 rfl ?_
        refine j_iald C 0 2 rfl rfl dX0_netOf_17 (by decide) (by omega) (by omega) ?_
        refine j_iload_n C dX0_netOf_18 rfl ?_
        refine j_icmp_ne (tgt := 31) C dX0_netOf_19 (by decide) (by omega) (by omega) (by omega) (by omega) (fun c19 => ?_) (fun c19 => ?_)
        · refine j_aload_n C dX0_netOf_31 rfl ?_
          refine j_get C 0 0 5 rfl rfl rfl wU_X0 (by decide) wF_X0_15 rfl dX0_netOf_32 ?_
          refine j_iload_n C dX0_netOf_35 rfl ?_
          refine j_iald C 0 1 rfl rfl dX0_netOf_36 (by decide) (by omega) (by omega) ?_
          refine j_iload_n C dX0_netOf_37 rfl ?_
          refine j_icmp_ne (tgt := 50) C dX0_netOf_38 (by decide) (by omega) (by omega) (by omega) (by omega) (fun c38 => ?_) (fun c38 => ?_)
          · refine j_iinc_3 C dX0_netOf_50 rfl ?_
            refine j_goto (tgt := 4) C dX0_netOf_53 (by decide) ?_
            exact ih4 _ _ (by omega) (by rw [hs, sumZ_s _ (by omega)]; unfold netF; omega) (by omega)
          · refine j_iload_n C dX0_netOf_41 rfl ?_
            refine j_aload_n C dX0_netOf_42 rfl ?_
            refine j_get C 0 0 7 rfl rfl rfl wU_X0 (by decide) wF_X0_22 rfl dX0_netOf_43 ?_
            refine j_iload_n C dX0_netOf_46 rfl ?_
            refine j_iald C 0 3 rfl rfl dX0_netOf_47 (by decide) (by omega) (by omega) ?_
            refine j_isub C dX0_netOf_48 ?_
            refine j_istn_2 C dX0_netOf_49 rfl ?_
            refine j_iinc_3 C dX0_netOf_50 rfl ?_
            refine j_goto (tgt := 4) C dX0_netOf_53 (by decide) ?_
            exact ih4 _ _ (by omega) (by rw [hs, sumZ_s _ (by omega)]; unfold netF; omega) (by omega)
        · refine j_iload_n C dX0_netOf_22 rfl ?_
          refine j_aload_n C dX0_netOf_23 rfl ?_
          refine j_get C 0 0 7 rfl rfl rfl wU_X0 (by decide) wF_X0_22 rfl dX0_netOf_24 ?_
          refine j_iload_n C dX0_netOf_27 rfl ?_
          refine j_iald C 0 3 rfl rfl dX0_netOf_28 (by decide) (by omega) (by omega) ?_
          refine j_iadd C dX0_netOf_29 ?_
          refine j_istn_2 C dX0_netOf_30 rfl ?_
          refine j_aload_n C dX0_netOf_31 rfl ?_
          refine j_get C 0 0 5 rfl rfl rfl wU_X0 (by decide) wF_X0_15 rfl dX0_netOf_32 ?_
          refine j_iload_n C dX0_netOf_35 rfl ?_
          refine j_iald C 0 1 rfl rfl dX0_netOf_36 (by decide) (by omega) (by omega) ?_
          refine j_iload_n C dX0_netOf_37 rfl ?_
          refine j_icmp_ne (tgt := 50) C dX0_netOf_38 (by decide) (by omega) (by omega) (by omega) (by omega) (fun c38 => ?_) (fun c38 => ?_)
          · refine j_iinc_3 C dX0_netOf_50 rfl ?_
            refine j_goto (tgt := 4) C dX0_netOf_53 (by decide) ?_
            exact ih4 _ _ (by omega) (by rw [hs, sumZ_s _ (by omega)]; unfold netF; omega) (by omega)
          · refine j_iload_n C dX0_netOf_41 rfl ?_
            refine j_aload_n C dX0_netOf_42 rfl ?_
            refine j_get C 0 0 7 rfl rfl rfl wU_X0 (by decide) wF_X0_22 rfl dX0_netOf_43 ?_
            refine j_iload_n C dX0_netOf_46 rfl ?_
            refine j_iald C 0 3 rfl rfl dX0_netOf_47 (by decide) (by omega) (by omega) ?_
            refine j_isub C dX0_netOf_48 ?_
            refine j_istn_2 C dX0_netOf_49 rfl ?_
            refine j_iinc_3 C dX0_netOf_50 rfl ?_
            refine j_goto (tgt := 4) C dX0_netOf_53 (by decide) ?_
            exact ih4 _ _ (by omega) (by rw [hs, sumZ_s _ (by omega)]; unfold netF; omega) (by omega)
  exact L4 _ _ _ (by omega) (by rfl) (Nat.lt_succ_self _)
set_option maxHeartbeats 4000000 in
set_option maxRecDepth 100000 in
theorem c_X0_debtBetween (l : Launch) (D : va_G) (cA : Nat → ClassId) (b : Nat → Nat) (S : Int → Int) (p q : Int) (hI : Inv S) (hp : -2147483648 ≤ p ∧ p < 2147483648) (hq : -2147483648 ≤ q ∧ q < 2147483648) : MI (U := Unit) l yX0_debtBetween cX0_debtBetween 5 (some .int) (rmN 1 0 0) D cA [.ref (b 0), .int (iI p), .int (iI q)] [bk cA b S] (fun x _ => x = debS S p q) (fun _ => [bk cA b S]) := by
  refine m_startI pn_X0 rfl (List.forall_mem_cons.mpr ⟨rfl, List.forall_mem_cons.mpr ⟨rfl, List.forall_mem_cons.mpr ⟨rfl, fun _ h => absurd h List.not_mem_nil⟩⟩⟩) (Nat.le_of_ble_eq_true rfl) ?_
  intro K C e1 e2 e3 hin hR
  subst e1 e2 e3
  have hN := hI.2.1
  have hQ := hI.1
  show J K 0 0 [bk (kC K) b S] [some (.ref (b 0)), some (.int (iI p)), some (.int (iI q)), none, none] 0 []
  refine j_iconst C dX0_debtBetween_0 ?_
  refine j_istn_3 C dX0_debtBetween_1 rfl ?_
  refine j_iconst C dX0_debtBetween_2 ?_
  refine j_ist_4 C dX0_debtBetween_3 rfl ?_
  have L5 : ∀ (fuel : Nat) (i s : Int) (hi : 0 ≤ i ∧ i ≤ S 1) (hs : s = sumZ (debF S p q) i) (hf5 : (S 1 - i).toNat < fuel), J K 0 0 [bk (kC K) b S] [some (.ref (b 0)), some (.int (iI p)), some (.int (iI q)), some (.int (iI s)), some (.int (iI i))] 5 [] := by
    intro fuel
    induction fuel with
    | zero => intro i s hi hs hf5; exact absurd hf5 (Nat.not_lt_zero _)
    | succ fuel ih5 =>
      intro i s hi hs hf5
      refine j_iload C dX0_debtBetween_5 rfl ?_
      refine j_aload_n C dX0_debtBetween_7 rfl ?_
      refine j_get C 0 0 1 rfl rfl rfl wU_X0 (by decide) wF_X0_41 rfl dX0_debtBetween_8 ?_
      refine j_icmp_ge (tgt := 62) C dX0_debtBetween_11 (by decide) (by omega) (by omega) (by omega) (by omega) (fun c11 => ?_) (fun c11 => ?_)
      · refine j_iload_n C dX0_debtBetween_62 rfl ?_
        exact hR () dX0_debtBetween_63 (by rw [hs, show i = S 1 by omega]; rfl) rfl (Nat.le_of_ble_eq_true rfl) (Nat.le_of_ble_eq_true rfl)
      · have f := hI.2.2 i hi.1 (by omega)
        refine j_aload_n C dX0_debtBetween_14 rfl ?_
        refine j_get C 0 0 5 rfl rfl rfl wU_X0 (by decide) wF_X0_15 rfl dX0_debtBetween_15 ?_
        refine j_iload C dX0_debtBetween_18 rfl ?_
        refine j_iald C 0 1 rfl rfl dX0_debtBetween_20 (by decide) (by omega) (by omega) ?_
        refine j_iload_n C dX0_debtBetween_21 rfl ?_
        refine j_icmp_ne (tgt := 56) C dX0_debtBetween_22 (by decide) (by omega) (by omega) (by omega) (by omega) (fun c22 => ?_) (fun c22 => ?_)
        · refine j_iinc_4 C dX0_debtBetween_56 rfl ?_
          refine j_goto (tgt := 5) C dX0_debtBetween_59 (by decide) ?_
          exact ih5 _ _ (by omega) (by rw [hs, sumZ_s _ (by omega)]; unfold debF; first | (rw [if_pos ⟨by omega, by omega, by omega⟩]) | (rw [if_neg (by omega)]; omega)) (by omega)
        · refine j_aload_n C dX0_debtBetween_25 rfl ?_
          refine j_get C 0 0 6 rfl rfl rfl wU_X0 (by decide) wF_X0_19 rfl dX0_debtBetween_26 ?_
          refine j_iload C dX0_debtBetween_29 rfl ?_
          refine j_iald C 0 2 rfl rfl dX0_debtBetween_31 (by decide) (by omega) (by omega) ?_
          refine j_iload_n C dX0_debtBetween_32 rfl ?_
          refine j_icmp_ne (tgt := 56) C dX0_debtBetween_33 (by decide) (by omega) (by omega) (by omega) (by omega) (fun c33 => ?_) (fun c33 => ?_)
          · refine j_iinc_4 C dX0_debtBetween_56 rfl ?_
            refine j_goto (tgt := 5) C dX0_debtBetween_59 (by decide) ?_
            exact ih5 _ _ (by omega) (by rw [hs, sumZ_s _ (by omega)]; unfold debF; first | (rw [if_pos ⟨by omega, by omega, by omega⟩]) | (rw [if_neg (by omega)]; omega)) (by omega)
          · refine j_aload_n C dX0_debtBetween_36 rfl ?_
            refine j_get C 0 0 12 rfl rfl rfl wU_X0 (by decide) wF_X0_37 rfl dX0_debtBetween_37 ?_
            refine j_iload C dX0_debtBetween_40 rfl ?_
            refine j_zald C 0 8 rfl rfl dX0_debtBetween_42 (by decide) (by omega) (by omega) ?_
            refine j_if_ne (tgt := 56) C dX0_debtBetween_43 (by decide) (by omega) (by omega) (fun c43 => ?_) (fun c43 => ?_)
            · refine j_iinc_4 C dX0_debtBetween_56 rfl ?_
              refine j_goto (tgt := 5) C dX0_debtBetween_59 (by decide) ?_
              exact ih5 _ _ (by omega) (by rw [hs, sumZ_s _ (by omega)]; unfold debF; first | (rw [if_pos ⟨by omega, by omega, by omega⟩]) | (rw [if_neg (by omega)]; omega)) (by omega)
            · refine j_iload_n C dX0_debtBetween_46 rfl ?_
              refine j_aload_n C dX0_debtBetween_47 rfl ?_
              refine j_get C 0 0 7 rfl rfl rfl wU_X0 (by decide) wF_X0_22 rfl dX0_debtBetween_48 ?_
              refine j_iload C dX0_debtBetween_51 rfl ?_
              refine j_iald C 0 3 rfl rfl dX0_debtBetween_53 (by decide) (by omega) (by omega) ?_
              refine j_iadd C dX0_debtBetween_54 ?_
              refine j_istn_3 C dX0_debtBetween_55 rfl ?_
              refine j_iinc_4 C dX0_debtBetween_56 rfl ?_
              refine j_goto (tgt := 5) C dX0_debtBetween_59 (by decide) ?_
              exact ih5 _ _ (by omega) (by rw [hs, sumZ_s _ (by omega)]; unfold debF; first | (rw [if_pos ⟨by omega, by omega, by omega⟩]) | (rw [if_neg (by omega)]; omega)) (by omega)
  exact L5 _ _ _ (by omega) (by rfl) (Nat.lt_succ_self _)
set_option maxHeartbeats 4000000 in
set_option maxRecDepth 100000 in
theorem c_X0_sumOfGains (l : Launch) (D : va_G) (cA : Nat → ClassId) (b : Nat → Nat) (S : Int → Int) (hI : Inv S) : MI (U := Unit) l yX0_sumOfGains cX0_sumOfGains 3 (some .int) (rmN 2 0 0) D cA [.ref (b 0)] [bk cA b S] (fun x _ => x = gainS S) (fun _ => [bk cA b S]) := by
  refine m_startI pn_X0 rfl (List.forall_mem_cons.mpr ⟨rfl, fun _ h => absurd h List.not_mem_nil⟩) (Nat.le_of_ble_eq_true rfl) ?_
  intro K C e1 e2 e3 hin hR
  subst e1 e2 e3
  have hN := hI.2.1
  have hQ := hI.1
  show J K 0 0 [bk (kC K) b S] [some (.ref (b 0)), none, none] 0 []
  refine j_iconst C dX0_sumOfGains_0 ?_
  refine j_istn_1 C dX0_sumOfGains_1 rfl ?_
  refine j_iconst C dX0_sumOfGains_2 ?_
  refine j_istn_2 C dX0_sumOfGains_3 rfl ?_
  have L4 : ∀ (fuel : Nat) (i s : Int) (hi : 0 ≤ i ∧ i ≤ S 0) (hs : s = sumZ (fun p => if netS S p > 0 then netS S p else 0) i) (hf4 : (S 0 - i).toNat < fuel), J K 0 0 [bk (kC K) b S] [some (.ref (b 0)), some (.int (iI s)), some (.int (iI i))] 4 [] := by
    intro fuel
    induction fuel with
    | zero => intro i s hi hs hf4; exact absurd hf4 (Nat.not_lt_zero _)
    | succ fuel ih4 =>
      intro i s hi hs hf4
      refine j_iload_n C dX0_sumOfGains_4 rfl ?_
      refine j_aload_n C dX0_sumOfGains_5 rfl ?_
      refine j_get C 0 0 0 rfl rfl rfl wU_X0 (by decide) wF_X0_9 rfl dX0_sumOfGains_6 ?_
      refine j_icmp_ge (tgt := 30) C dX0_sumOfGains_9 (by decide) (by omega) (by omega) (by omega) (by omega) (fun c9 => ?_) (fun c9 => ?_)
      · refine j_iload_n C dX0_sumOfGains_30 rfl ?_
        exact hR () dX0_sumOfGains_31 (by rw [hs, show i = S 0 by omega]; rfl) rfl (Nat.le_of_ble_eq_true rfl) (Nat.le_of_ble_eq_true rfl)
      · refine j_iload_n C dX0_sumOfGains_12 rfl ?_
        refine j_iconst C dX0_sumOfGains_13 ?_
        refine j_aload_n C dX0_sumOfGains_14 rfl ?_
        refine j_iload_n C dX0_sumOfGains_15 rfl ?_
        refine j_perm (pm_1_0 _) ?_
        refine j_callVi C (As := [.int (iI _)]) (c_X0_netOf _ _ _ _ _ _ (by first | assumption | omega) (by first | assumption | omega)) 1 nf_X0_netOf (jb := 0) rfl rfl wL_X0_69 wI_X0_netOf wSe_X0_X0_netOf wIn_X0 wC_X0_netOf rfl rfl (by decide) dX0_sumOfGains_16 (Nat.le_of_ble_eq_true rfl) ⟨Nat.le_of_ble_eq_true rfl, Nat.le_of_ble_eq_true rfl⟩ (fun x16 u16 h16 => ?_)
        refine j_perm (pr_1_0 _) ?_
        have hb := netS_bd hI i
        refine j_mmax C rfl wL_X0_73 wS_J9_max_7cf53 wIn_J9 wC_J9_max_7cf53 ⟨by decide, Nat.le_of_ble_eq_true rfl, by decide, by decide⟩ dX0_sumOfGains_19 (by omega) (by omega) (by omega) (by omega) (fun z19 hz19 => ?_)
        refine j_iadd C dX0_sumOfGains_22 ?_
        refine j_istn_1 C dX0_sumOfGains_23 rfl ?_
        refine j_iinc_2 C dX0_sumOfGains_24 rfl ?_
        refine j_goto (tgt := 4) C dX0_sumOfGains_27 (by decide) ?_
        exact ih4 _ _ (by omega) (by rw [hs, sumZ_s _ (by omega)]; omega) (by omega)
  exact L4 _ _ _ (by omega) (by rfl) (Nat.lt_succ_self _)
