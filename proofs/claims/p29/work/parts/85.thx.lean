/-! the class: what is refused is thrown -/
set_option maxHeartbeats 800000 in
set_option maxRecDepth 100000 in
theorem c_X5_begin_xA (l : Launch) (D : va_G) (cA : Nat → ClassId) (q v : Nat) (b tb r m o d : Nat → Nat) (c : Int) (p : Int) (hfl : l.stackTraces = false) (hr : -2147483648 ≤ p ∧ p < 2147483648) (hn : ¬ (2 ≤ p ∧ p ≤ 7)) : MX (U := Unit) l yX5_begin cX5_begin 3 (some .int) (rmN 26 1 6) D cA [.ref (q), .int (iI p)] [prO q v b tb r m o c] eA (fun _ => True) (fun _ => [prO q v b tb r m o c]) := by
  refine m_startX hfl pn_X5 rfl (by decide) (List.forall_mem_cons.mpr ⟨rfl, List.forall_mem_cons.mpr ⟨rfl, fun _ h => absurd h List.not_mem_nil⟩⟩) (Nat.le_of_ble_eq_true rfl) ?_
  intro K C e1 e2 e3 hin hR
  subst e1 e2 e3
  show J K 0 0 [prO q v b tb r m o c] [some (.ref (q)), some (.int (iI p)), none] 0 []
  refine j_iload_n C dX5_begin_0 rfl ?_
  refine j_iconst C dX5_begin_1 ?_
  refine j_icmp_lt (tgt := 11) C dX5_begin_2 (by decide) (by omega) (by omega) (by omega) (by omega) (fun c2 => ?_) (fun c2 => ?_)
  · exact hR 46 44 48 _ () exW_A (List.mem_of_getElem? (i := 3) rfl) ⟨dX5_begin_11, dX5_begin_14, Or.inl ⟨dX5_begin_15, dX5_begin_17, dX5_begin_20⟩⟩ (by trivial) rfl rfl (Nat.le_of_ble_eq_true rfl) (Nat.le_of_ble_eq_true rfl)
  · refine j_iload_n C dX5_begin_5 rfl ?_
    refine j_bipush C dX5_begin_6 (by decide) ?_
    refine j_icmp_le (tgt := 21) C dX5_begin_8 (by decide) (by omega) (by omega) (by omega) (by omega) (fun c8 => ?_) (fun c8 => ?_)
    · exfalso; omega
    · exact hR 46 44 48 _ () exW_A (List.mem_of_getElem? (i := 3) rfl) ⟨dX5_begin_11, dX5_begin_14, Or.inl ⟨dX5_begin_15, dX5_begin_17, dX5_begin_20⟩⟩ (by trivial) rfl rfl (Nat.le_of_ble_eq_true rfl) (Nat.le_of_ble_eq_true rfl)
set_option maxHeartbeats 800000 in
set_option maxRecDepth 100000 in
theorem c_X5_promise_xB (l : Launch) (D : va_G) (cA : Nat → ClassId) (q v : Nat) (b tb r m o d : Nat → Nat) (c : Int) (S : Int → Int) (a e x y : Int) (hfl : l.stackTraces = false) (hI : Inv S) (ha : -2147483648 ≤ a ∧ a < 2147483648) (he : -2147483648 ≤ e ∧ e < 2147483648) (hn : ¬ ((0 ≤ a ∧ a < S 0) ∧ 0 ≤ e ∧ e < S 0)) : MX (U := Unit) l yX5_promise cX5_promise 5 (some .int) (rmN 26 1 6) D cA [.ref (q), .int (iI a), .int (iI e), .int (iI x), .int (iI y)] [prO q v b tb r m o c, bk cA b S] eB (fun _ => True) (fun _ => [prO q v b tb r m o c, bk cA b S]) := by
  refine m_startX hfl pn_X5 rfl (by decide) (List.forall_mem_cons.mpr ⟨rfl, List.forall_mem_cons.mpr ⟨rfl, List.forall_mem_cons.mpr ⟨rfl, List.forall_mem_cons.mpr ⟨rfl, List.forall_mem_cons.mpr ⟨rfl, fun _ h => absurd h List.not_mem_nil⟩⟩⟩⟩⟩) (Nat.le_of_ble_eq_true rfl) ?_
  intro K C e1 e2 e3 hin hR
  subst e1 e2 e3
  have hN := hI.2.1
  have hQ := hI.1
  show J K 0 0 [prO q v b tb r m o c, bk (kC K) b S] [some (.ref (q)), some (.int (iI a)), some (.int (iI e)), some (.int (iI x)), some (.int (iI y))] 0 []
  refine j_aload_n C dX5_promise_0 rfl ?_
  refine j_get C 0 0 0 rfl rfl rfl wU_X5 (by decide) wF_X5_12 rfl dX5_promise_1 ?_
  refine j_iload_n C dX5_promise_4 rfl ?_
  refine j_perm (pm_2_1 _ _) ?_
  refine j_callVi C (As := [.int (iI _)]) (c_X0_hasParty _ _ _ _ _ _ (by first | assumption | omega) (by first | assumption | omega)) 1 nf_X0_hasParty (jb := 0) rfl rfl wL_X5_62 wI_X0_hasParty wSe_X0_X0_hasParty wIn_X0 wC_X0_hasParty rfl rfl (by decide) dX5_promise_5 (Nat.le_of_ble_eq_true rfl) ⟨Nat.le_of_ble_eq_true rfl, Nat.le_of_ble_eq_true rfl⟩ (fun x5 u5 h5 => ?_)
  refine j_perm (pr_2_1 _ _) ?_
  refine j_if_eq (tgt := 22) C dX5_promise_8 (by decide) (by omega) (by omega) (fun c8 => ?_) (fun c8 => ?_)
  · exact hR 68 66 70 _ () exW_B (List.mem_of_getElem? (i := 4) rfl) ⟨dX5_promise_22, dX5_promise_25, Or.inl ⟨dX5_promise_26, dX5_promise_28, dX5_promise_31⟩⟩ (by trivial) rfl rfl (Nat.le_of_ble_eq_true rfl) (Nat.le_of_ble_eq_true rfl)
  · refine j_aload_n C dX5_promise_11 rfl ?_
    refine j_get C 0 0 0 rfl rfl rfl wU_X5 (by decide) wF_X5_12 rfl dX5_promise_12 ?_
    refine j_iload_n C dX5_promise_15 rfl ?_
    refine j_perm (pm_2_1 _ _) ?_
    refine j_callVi C (As := [.int (iI _)]) (c_X0_hasParty _ _ _ _ _ _ (by first | assumption | omega) (by first | assumption | omega)) 1 nf_X0_hasParty (jb := 0) rfl rfl wL_X5_62 wI_X0_hasParty wSe_X0_X0_hasParty wIn_X0 wC_X0_hasParty rfl rfl (by decide) dX5_promise_16 (Nat.le_of_ble_eq_true rfl) ⟨Nat.le_of_ble_eq_true rfl, Nat.le_of_ble_eq_true rfl⟩ (fun x16 u16 h16 => ?_)
    refine j_perm (pr_2_1 _ _) ?_
    refine j_if_ne (tgt := 32) C dX5_promise_19 (by decide) (by omega) (by omega) (fun c19 => ?_) (fun c19 => ?_)
    · exfalso; rw [h16] at c19; rw [h5] at c8; split at c8 <;> split at c19 <;> omega
    · exact hR 68 66 70 _ () exW_B (List.mem_of_getElem? (i := 4) rfl) ⟨dX5_promise_22, dX5_promise_25, Or.inl ⟨dX5_promise_26, dX5_promise_28, dX5_promise_31⟩⟩ (by trivial) rfl rfl (Nat.le_of_ble_eq_true rfl) (Nat.le_of_ble_eq_true rfl)
set_option maxHeartbeats 800000 in
set_option maxRecDepth 100000 in
theorem c_X5_promise_xA (l : Launch) (D : va_G) (cA : Nat → ClassId) (q v : Nat) (b tb r m o d : Nat → Nat) (c : Int) (S : Int → Int) (a e x y : Int) (hfl : l.stackTraces = false) (hI : Inv S) (ha : 0 ≤ a ∧ a < S 0) (he : 0 ≤ e ∧ e < S 0) (hx : -2147483648 ≤ x ∧ x < 2147483648) (hy : -2147483648 ≤ y ∧ y < 2147483648) (hn : ¬ (1 ≤ x ∧ x ≤ 1000 ∧ 1 ≤ y ∧ y ≤ 9 ∧ a ≠ e)) : MX (U := Unit) l yX5_promise cX5_promise 5 (some .int) (rmN 26 1 6) D cA [.ref (q), .int (iI a), .int (iI e), .int (iI x), .int (iI y)] [prO q v b tb r m o c, bk cA b S] eA (fun _ => True) (fun _ => [prO q v b tb r m o c, bk cA b S]) := by
  refine m_startX hfl pn_X5 rfl (by decide) (List.forall_mem_cons.mpr ⟨rfl, List.forall_mem_cons.mpr ⟨rfl, List.forall_mem_cons.mpr ⟨rfl, List.forall_mem_cons.mpr ⟨rfl, List.forall_mem_cons.mpr ⟨rfl, fun _ h => absurd h List.not_mem_nil⟩⟩⟩⟩⟩) (Nat.le_of_ble_eq_true rfl) ?_
  intro K C e1 e2 e3 hin hR
  subst e1 e2 e3
  have hN := hI.2.1
  have hQ := hI.1
  show J K 0 0 [prO q v b tb r m o c, bk (kC K) b S] [some (.ref (q)), some (.int (iI a)), some (.int (iI e)), some (.int (iI x)), some (.int (iI y))] 0 []
  refine j_aload_n C dX5_promise_0 rfl ?_
  refine j_get C 0 0 0 rfl rfl rfl wU_X5 (by decide) wF_X5_12 rfl dX5_promise_1 ?_
  refine j_iload_n C dX5_promise_4 rfl ?_
  refine j_perm (pm_2_1 _ _) ?_
  refine j_callVi C (As := [.int (iI _)]) (c_X0_hasParty _ _ _ _ _ _ (by first | assumption | omega) (by first | assumption | omega)) 1 nf_X0_hasParty (jb := 0) rfl rfl wL_X5_62 wI_X0_hasParty wSe_X0_X0_hasParty wIn_X0 wC_X0_hasParty rfl rfl (by decide) dX5_promise_5 (Nat.le_of_ble_eq_true rfl) ⟨Nat.le_of_ble_eq_true rfl, Nat.le_of_ble_eq_true rfl⟩ (fun x5 u5 h5 => ?_)
  refine j_perm (pr_2_1 _ _) ?_
  refine j_if_eq (tgt := 22) C dX5_promise_8 (by decide) (by omega) (by omega) (fun c8 => ?_) (fun c8 => ?_)
  · exact absurd c8 (by rw [h5, if_pos (by omega)]; decide)
  · refine j_aload_n C dX5_promise_11 rfl ?_
    refine j_get C 0 0 0 rfl rfl rfl wU_X5 (by decide) wF_X5_12 rfl dX5_promise_12 ?_
    refine j_iload_n C dX5_promise_15 rfl ?_
    refine j_perm (pm_2_1 _ _) ?_
    refine j_callVi C (As := [.int (iI _)]) (c_X0_hasParty _ _ _ _ _ _ (by first | assumption | omega) (by first | assumption | omega)) 1 nf_X0_hasParty (jb := 0) rfl rfl wL_X5_62 wI_X0_hasParty wSe_X0_X0_hasParty wIn_X0 wC_X0_hasParty rfl rfl (by decide) dX5_promise_16 (Nat.le_of_ble_eq_true rfl) ⟨Nat.le_of_ble_eq_true rfl, Nat.le_of_ble_eq_true rfl⟩ (fun x16 u16 h16 => ?_)
    refine j_perm (pr_2_1 _ _) ?_
    refine j_if_ne (tgt := 32) C dX5_promise_19 (by decide) (by omega) (by omega) (fun c19 => ?_) (fun c19 => ?_)
    · refine j_iload_n C dX5_promise_32 rfl ?_
      refine j_iload_n C dX5_promise_33 rfl ?_
      refine j_iload_n C dX5_promise_34 rfl ?_
      refine j_iload C dX5_promise_35 rfl ?_
      refine j_perm (pm_2 _ _) ?_
      refine j_callSi C (As := [.int (iI _), .int (iI _), .int (iI _), .int (iI _)]) (c_X5_canBePromised _ _ _ _ _ _ _ (by first | assumption | omega) (by first | assumption | omega) (by first | assumption | omega) (by first | assumption | omega)) 4 nf_X5_canBePromised.2 wL_X5_71 wS_X5_canBePromised wIn_X5 wC_X5_canBePromised rfl rfl (by decide) dX5_promise_37 (Nat.le_of_ble_eq_true rfl) ⟨Nat.le_of_ble_eq_true rfl, Nat.le_of_ble_eq_true rfl⟩ (fun x37 u37 h37 => ?_)
      refine j_perm (pr_2 _ _) ?_
      refine j_if_ne (tgt := 53) C dX5_promise_40 (by decide) (by omega) (by omega) (fun c40 => ?_) (fun c40 => ?_)
      · exfalso; rw [h37, if_neg hn] at c40; exact c40 rfl
      · exact hR 75 44 48 _ () exW_A (List.mem_of_getElem? (i := 5) rfl) ⟨dX5_promise_43, dX5_promise_46, Or.inl ⟨dX5_promise_47, dX5_promise_49, dX5_promise_52⟩⟩ (by trivial) rfl rfl (Nat.le_of_ble_eq_true rfl) (Nat.le_of_ble_eq_true rfl)
    · exact absurd c19 (by rw [h16, if_pos (by omega)]; decide)
set_option maxHeartbeats 800000 in
set_option maxRecDepth 100000 in
theorem c_X5_promise_xC (l : Launch) (D : va_G) (cA : Nat → ClassId) (q v : Nat) (b tb r m o d : Nat → Nat) (c : Int) (S : Int → Int) (a e x y : Int) (hfl : l.stackTraces = false) (hI : Inv S) (ha : 0 ≤ a ∧ a < S 0) (he : 0 ≤ e ∧ e < S 0) (hx : 1 ≤ x ∧ x ≤ 1000) (hy : 1 ≤ y ∧ y ≤ 9) (hne : a ≠ e) (hn : S 1 = 40) : MX (U := Unit) l yX5_promise cX5_promise 5 (some .int) (rmN 26 1 6) D cA [.ref (q), .int (iI a), .int (iI e), .int (iI x), .int (iI y)] [prO q v b tb r m o c, bk cA b S] eC (fun _ => True) (fun _ => [prO q v b tb r m o c, bk cA b S]) := by
  refine m_startX hfl pn_X5 rfl (by decide) (List.forall_mem_cons.mpr ⟨rfl, List.forall_mem_cons.mpr ⟨rfl, List.forall_mem_cons.mpr ⟨rfl, List.forall_mem_cons.mpr ⟨rfl, List.forall_mem_cons.mpr ⟨rfl, fun _ h => absurd h List.not_mem_nil⟩⟩⟩⟩⟩) (Nat.le_of_ble_eq_true rfl) ?_
  intro K C e1 e2 e3 hin hR
  subst e1 e2 e3
  have hN := hI.2.1
  have hQ := hI.1
  show J K 0 0 [prO q v b tb r m o c, bk (kC K) b S] [some (.ref (q)), some (.int (iI a)), some (.int (iI e)), some (.int (iI x)), some (.int (iI y))] 0 []
  refine j_aload_n C dX5_promise_0 rfl ?_
  refine j_get C 0 0 0 rfl rfl rfl wU_X5 (by decide) wF_X5_12 rfl dX5_promise_1 ?_
  refine j_iload_n C dX5_promise_4 rfl ?_
  refine j_perm (pm_2_1 _ _) ?_
  refine j_callVi C (As := [.int (iI _)]) (c_X0_hasParty _ _ _ _ _ _ (by first | assumption | omega) (by first | assumption | omega)) 1 nf_X0_hasParty (jb := 0) rfl rfl wL_X5_62 wI_X0_hasParty wSe_X0_X0_hasParty wIn_X0 wC_X0_hasParty rfl rfl (by decide) dX5_promise_5 (Nat.le_of_ble_eq_true rfl) ⟨Nat.le_of_ble_eq_true rfl, Nat.le_of_ble_eq_true rfl⟩ (fun x5 u5 h5 => ?_)
  refine j_perm (pr_2_1 _ _) ?_
  refine j_if_eq (tgt := 22) C dX5_promise_8 (by decide) (by omega) (by omega) (fun c8 => ?_) (fun c8 => ?_)
  · exact absurd c8 (by rw [h5, if_pos (by omega)]; decide)
  · refine j_aload_n C dX5_promise_11 rfl ?_
    refine j_get C 0 0 0 rfl rfl rfl wU_X5 (by decide) wF_X5_12 rfl dX5_promise_12 ?_
    refine j_iload_n C dX5_promise_15 rfl ?_
    refine j_perm (pm_2_1 _ _) ?_
    refine j_callVi C (As := [.int (iI _)]) (c_X0_hasParty _ _ _ _ _ _ (by first | assumption | omega) (by first | assumption | omega)) 1 nf_X0_hasParty (jb := 0) rfl rfl wL_X5_62 wI_X0_hasParty wSe_X0_X0_hasParty wIn_X0 wC_X0_hasParty rfl rfl (by decide) dX5_promise_16 (Nat.le_of_ble_eq_true rfl) ⟨Nat.le_of_ble_eq_true rfl, Nat.le_of_ble_eq_true rfl⟩ (fun x16 u16 h16 => ?_)
    refine j_perm (pr_2_1 _ _) ?_
    refine j_if_ne (tgt := 32) C dX5_promise_19 (by decide) (by omega) (by omega) (fun c19 => ?_) (fun c19 => ?_)
    · refine j_iload_n C dX5_promise_32 rfl ?_
      refine j_iload_n C dX5_promise_33 rfl ?_
      refine j_iload_n C dX5_promise_34 rfl ?_
      refine j_iload C dX5_promise_35 rfl ?_
      refine j_perm (pm_2 _ _) ?_
      refine j_callSi C (As := [.int (iI _), .int (iI _), .int (iI _), .int (iI _)]) (c_X5_canBePromised _ _ _ _ _ _ _ (by first | assumption | omega) (by first | assumption | omega) (by first | assumption | omega) (by first | assumption | omega)) 4 nf_X5_canBePromised.2 wL_X5_71 wS_X5_canBePromised wIn_X5 wC_X5_canBePromised rfl rfl (by decide) dX5_promise_37 (Nat.le_of_ble_eq_true rfl) ⟨Nat.le_of_ble_eq_true rfl, Nat.le_of_ble_eq_true rfl⟩ (fun x37 u37 h37 => ?_)
      refine j_perm (pr_2 _ _) ?_
      refine j_if_ne (tgt := 53) C dX5_promise_40 (by decide) (by omega) (by omega) (fun c40 => ?_) (fun c40 => ?_)
      · refine j_aload_n C dX5_promise_53 rfl ?_
        refine j_get C 0 0 0 rfl rfl rfl wU_X5 (by decide) wF_X5_12 rfl dX5_promise_54 ?_
        refine j_perm (pm_2_1 _ _) ?_
        refine j_callVi C (As := []) (c_X0_isFull _ _ _ _ _ (by first | assumption | omega)) 0 nf_X0_isFull (jb := 0) rfl rfl wL_X5_77 wI_X0_isFull wSe_X0_X0_isFull wIn_X0 wC_X0_isFull rfl rfl (by decide) dX5_promise_57 (Nat.le_of_ble_eq_true rfl) ⟨Nat.le_of_ble_eq_true rfl, Nat.le_of_ble_eq_true rfl⟩ (fun x57 u57 h57 => ?_)
        refine j_perm (pr_2_1 _ _) ?_
        refine j_if_eq (tgt := 73) C dX5_promise_60 (by decide) (by omega) (by omega) (fun c60 => ?_) (fun c60 => ?_)
        · exfalso; rw [if_pos (by omega)] at h57; omega
        · exact hR 83 81 85 _ () exW_C (List.mem_of_getElem? (i := 6) rfl) ⟨dX5_promise_63, dX5_promise_66, Or.inl ⟨dX5_promise_67, dX5_promise_69, dX5_promise_72⟩⟩ (by trivial) rfl rfl (Nat.le_of_ble_eq_true rfl) (Nat.le_of_ble_eq_true rfl)
      · exact absurd c40 (by rw [h37, if_pos (by omega)]; decide)
    · exact absurd c19 (by rw [h16, if_pos (by omega)]; decide)
set_option maxHeartbeats 800000 in
set_option maxRecDepth 100000 in
theorem c_X5_pay_xB (l : Launch) (D : va_G) (cA : Nat → ClassId) (q v : Nat) (b tb r m o d : Nat → Nat) (c : Int) (S : Int → Int) (i a : Int) (hfl : l.stackTraces = false) (hI : Inv S) (hi : -2147483648 ≤ i ∧ i < 2147483648) (hn : ¬ (0 ≤ i ∧ i < S 1)) : MX (U := Unit) l yX5_pay cX5_pay 3 (some .int) (rmN 26 1 6) D cA [.ref (q), .int (iI i), .int (iI a)] [prO q v b tb r m o c, bk cA b S] eB (fun _ => True) (fun _ => [prO q v b tb r m o c, bk cA b S]) := by
  refine m_startX hfl pn_X5 rfl (by decide) (List.forall_mem_cons.mpr ⟨rfl, List.forall_mem_cons.mpr ⟨rfl, List.forall_mem_cons.mpr ⟨rfl, fun _ h => absurd h List.not_mem_nil⟩⟩⟩) (Nat.le_of_ble_eq_true rfl) ?_
  intro K C e1 e2 e3 hin hR
  subst e1 e2 e3
  have hN := hI.2.1
  have hQ := hI.1
  show J K 0 0 [prO q v b tb r m o c, bk (kC K) b S] [some (.ref (q)), some (.int (iI i)), some (.int (iI a))] 0 []
  refine j_aload_n C dX5_pay_0 rfl ?_
  refine j_get C 0 0 0 rfl rfl rfl wU_X5 (by decide) wF_X5_12 rfl dX5_pay_1 ?_
  refine j_iload_n C dX5_pay_4 rfl ?_
  refine j_perm (pm_2_1 _ _) ?_
  refine j_callVi C (As := [.int (iI _)]) (c_X0_holds _ _ _ _ _ _ (by first | assumption | omega) (by first | assumption | omega)) 1 nf_X0_holds (jb := 0) rfl rfl wL_X5_90 wI_X0_holds wSe_X0_X0_holds wIn_X0 wC_X0_holds rfl rfl (by decide) dX5_pay_5 (Nat.le_of_ble_eq_true rfl) ⟨Nat.le_of_ble_eq_true rfl, Nat.le_of_ble_eq_true rfl⟩ (fun x5 u5 h5 => ?_)
  refine j_perm (pr_2_1 _ _) ?_
  refine j_if_ne (tgt := 21) C dX5_pay_8 (by decide) (by omega) (by omega) (fun c8 => ?_) (fun c8 => ?_)
  · exfalso; rw [h5, if_neg hn] at c8; exact c8 rfl
  · exact hR 93 66 70 _ () exW_B (List.mem_of_getElem? (i := 1) rfl) ⟨dX5_pay_11, dX5_pay_14, Or.inl ⟨dX5_pay_15, dX5_pay_17, dX5_pay_20⟩⟩ (by trivial) rfl rfl (Nat.le_of_ble_eq_true rfl) (Nat.le_of_ble_eq_true rfl)
set_option maxHeartbeats 800000 in
set_option maxRecDepth 100000 in
theorem c_X5_pay_xA (l : Launch) (D : va_G) (cA : Nat → ClassId) (q v : Nat) (b tb r m o d : Nat → Nat) (c : Int) (S : Int → Int) (i a : Int) (hfl : l.stackTraces = false) (hI : Inv S) (hi : 0 ≤ i ∧ i < S 1) (ha : -2147483648 ≤ a ∧ a < 2147483648) (hn : a < 1) : MX (U := Unit) l yX5_pay cX5_pay 3 (some .int) (rmN 26 1 6) D cA [.ref (q), .int (iI i), .int (iI a)] [prO q v b tb r m o c, bk cA b S] eA (fun _ => True) (fun _ => [prO q v b tb r m o c, bk cA b S]) := by
  refine m_startX hfl pn_X5 rfl (by decide) (List.forall_mem_cons.mpr ⟨rfl, List.forall_mem_cons.mpr ⟨rfl, List.forall_mem_cons.mpr ⟨rfl, fun _ h => absurd h List.not_mem_nil⟩⟩⟩) (Nat.le_of_ble_eq_true rfl) ?_
  intro K C e1 e2 e3 hin hR
  subst e1 e2 e3
  have hN := hI.2.1
  have hQ := hI.1
  have f := hI.2.2 i hi.1 hi.2
  show J K 0 0 [prO q v b tb r m o c, bk (kC K) b S] [some (.ref (q)), some (.int (iI i)), some (.int (iI a))] 0 []
  refine j_aload_n C dX5_pay_0 rfl ?_
  refine j_get C 0 0 0 rfl rfl rfl wU_X5 (by decide) wF_X5_12 rfl dX5_pay_1 ?_
  refine j_iload_n C dX5_pay_4 rfl ?_
  refine j_perm (pm_2_1 _ _) ?_
  refine j_callVi C (As := [.int (iI _)]) (c_X0_holds _ _ _ _ _ _ (by first | assumption | omega) (by first | assumption | omega)) 1 nf_X0_holds (jb := 0) rfl rfl wL_X5_90 wI_X0_holds wSe_X0_X0_holds wIn_X0 wC_X0_holds rfl rfl (by decide) dX5_pay_5 (Nat.le_of_ble_eq_true rfl) ⟨Nat.le_of_ble_eq_true rfl, Nat.le_of_ble_eq_true rfl⟩ (fun x5 u5 h5 => ?_)
  refine j_perm (pr_2_1 _ _) ?_
  refine j_if_ne (tgt := 21) C dX5_pay_8 (by decide) (by omega) (by omega) (fun c8 => ?_) (fun c8 => ?_)
  · refine j_iload_n C dX5_pay_21 rfl ?_
    refine j_iconst C dX5_pay_22 ?_
    refine j_icmp_ge (tgt := 36) C dX5_pay_23 (by decide) (by omega) (by omega) (by omega) (by omega) (fun c23 => ?_) (fun c23 => ?_)
    · exfalso; omega
    · exact hR 95 44 48 _ () exW_A (List.mem_of_getElem? (i := 7) rfl) ⟨dX5_pay_26, dX5_pay_29, Or.inl ⟨dX5_pay_30, dX5_pay_32, dX5_pay_35⟩⟩ (by trivial) rfl rfl (Nat.le_of_ble_eq_true rfl) (Nat.le_of_ble_eq_true rfl)
  · exact absurd c8 (by rw [h5, if_pos (by omega)]; decide)
set_option maxHeartbeats 800000 in
set_option maxRecDepth 100000 in
theorem c_X5_pay_xC (l : Launch) (D : va_G) (cA : Nat → ClassId) (q v : Nat) (b tb r m o d : Nat → Nat) (c : Int) (S : Int → Int) (i a : Int) (hfl : l.stackTraces = false) (hI : Inv S) (hi : 0 ≤ i ∧ i < S 1) (ha : -2147483648 ≤ a ∧ a < 2147483648) (ha1 : 1 ≤ a) (hn : am S i < a) : MX (U := Unit) l yX5_pay cX5_pay 3 (some .int) (rmN 26 1 6) D cA [.ref (q), .int (iI i), .int (iI a)] [prO q v b tb r m o c, bk cA b S] eC (fun _ => True) (fun _ => [prO q v b tb r m o c, bk cA b S]) := by
  refine m_startX hfl pn_X5 rfl (by decide) (List.forall_mem_cons.mpr ⟨rfl, List.forall_mem_cons.mpr ⟨rfl, List.forall_mem_cons.mpr ⟨rfl, fun _ h => absurd h List.not_mem_nil⟩⟩⟩) (Nat.le_of_ble_eq_true rfl) ?_
  intro K C e1 e2 e3 hin hR
  subst e1 e2 e3
  have hN := hI.2.1
  have hQ := hI.1
  have f := hI.2.2 i hi.1 hi.2
  show J K 0 0 [prO q v b tb r m o c, bk (kC K) b S] [some (.ref (q)), some (.int (iI i)), some (.int (iI a))] 0 []
  refine j_aload_n C dX5_pay_0 rfl ?_
  refine j_get C 0 0 0 rfl rfl rfl wU_X5 (by decide) wF_X5_12 rfl dX5_pay_1 ?_
  refine j_iload_n C dX5_pay_4 rfl ?_
  refine j_perm (pm_2_1 _ _) ?_
  refine j_callVi C (As := [.int (iI _)]) (c_X0_holds _ _ _ _ _ _ (by first | assumption | omega) (by first | assumption | omega)) 1 nf_X0_holds (jb := 0) rfl rfl wL_X5_90 wI_X0_holds wSe_X0_X0_holds wIn_X0 wC_X0_holds rfl rfl (by decide) dX5_pay_5 (Nat.le_of_ble_eq_true rfl) ⟨Nat.le_of_ble_eq_true rfl, Nat.le_of_ble_eq_true rfl⟩ (fun x5 u5 h5 => ?_)
  refine j_perm (pr_2_1 _ _) ?_
  refine j_if_ne (tgt := 21) C dX5_pay_8 (by decide) (by omega) (by omega) (fun c8 => ?_) (fun c8 => ?_)
  · refine j_iload_n C dX5_pay_21 rfl ?_
    refine j_iconst C dX5_pay_22 ?_
    refine j_icmp_ge (tgt := 36) C dX5_pay_23 (by decide) (by omega) (by omega) (by omega) (by omega) (fun c23 => ?_) (fun c23 => ?_)
    · refine j_iload_n C dX5_pay_36 rfl ?_
      refine j_aload_n C dX5_pay_37 rfl ?_
      refine j_get C 0 0 0 rfl rfl rfl wU_X5 (by decide) wF_X5_12 rfl dX5_pay_38 ?_
      refine j_getN C 1 0 7 rfl rfl rfl wU_X0 (by decide) wFN_X5_97 rfl dX5_pay_41 ?_
      refine j_iload_n C dX5_pay_44 rfl ?_
      refine j_iald C 1 3 rfl rfl dX5_pay_45 (by decide) (by omega) (by omega) ?_
      refine j_icmp_le (tgt := 59) C dX5_pay_46 (by decide) (by omega) (by omega) (by omega) (by omega) (fun c46 => ?_) (fun c46 => ?_)
      · exfalso; omega
      · exact hR 101 81 85 _ () exW_C (List.mem_of_getElem? (i := 8) rfl) ⟨dX5_pay_49, dX5_pay_52, Or.inl ⟨dX5_pay_53, dX5_pay_55, dX5_pay_58⟩⟩ (by trivial) rfl rfl (Nat.le_of_ble_eq_true rfl) (Nat.le_of_ble_eq_true rfl)
    · exfalso; omega
  · exact absurd c8 (by rw [h5, if_pos (by omega)]; decide)
set_option maxHeartbeats 800000 in
set_option maxRecDepth 100000 in
theorem c_X5_dispute_xB (l : Launch) (D : va_G) (cA : Nat → ClassId) (q v : Nat) (b tb r m o d : Nat → Nat) (c : Int) (S : Int → Int) (i : Int) (hfl : l.stackTraces = false) (hI : Inv S) (hi : -2147483648 ≤ i ∧ i < 2147483648) (hn : ¬ (0 ≤ i ∧ i < S 1)) : MX (U := Unit) l yX5_dispute cX5_dispute 3 (some .int) (rmN 26 1 6) D cA [.ref (q), .int (iI i)] [prO q v b tb r m o c, bk cA b S] eB (fun _ => True) (fun _ => [prO q v b tb r m o c, bk cA b S]) := by
  refine m_startX hfl pn_X5 rfl (by decide) (List.forall_mem_cons.mpr ⟨rfl, List.forall_mem_cons.mpr ⟨rfl, fun _ h => absurd h List.not_mem_nil⟩⟩) (Nat.le_of_ble_eq_true rfl) ?_
  intro K C e1 e2 e3 hin hR
  subst e1 e2 e3
  have hN := hI.2.1
  have hQ := hI.1
  show J K 0 0 [prO q v b tb r m o c, bk (kC K) b S] [some (.ref (q)), some (.int (iI i)), none] 0 []
  refine j_aload_n C dX5_dispute_0 rfl ?_
  refine j_get C 0 0 0 rfl rfl rfl wU_X5 (by decide) wF_X5_12 rfl dX5_dispute_1 ?_
  refine j_iload_n C dX5_dispute_4 rfl ?_
  refine j_perm (pm_2_1 _ _) ?_
  refine j_callVi C (As := [.int (iI _)]) (c_X0_holds _ _ _ _ _ _ (by first | assumption | omega) (by first | assumption | omega)) 1 nf_X0_holds (jb := 0) rfl rfl wL_X5_90 wI_X0_holds wSe_X0_X0_holds wIn_X0 wC_X0_holds rfl rfl (by decide) dX5_dispute_5 (Nat.le_of_ble_eq_true rfl) ⟨Nat.le_of_ble_eq_true rfl, Nat.le_of_ble_eq_true rfl⟩ (fun x5 u5 h5 => ?_)
  refine j_perm (pr_2_1 _ _) ?_
  refine j_if_ne (tgt := 21) C dX5_dispute_8 (by decide) (by omega) (by omega) (fun c8 => ?_) (fun c8 => ?_)
  · exfalso; rw [h5, if_neg hn] at c8; exact c8 rfl
  · exact hR 93 66 70 _ () exW_B (List.mem_of_getElem? (i := 1) rfl) ⟨dX5_dispute_11, dX5_dispute_14, Or.inl ⟨dX5_dispute_15, dX5_dispute_17, dX5_dispute_20⟩⟩ (by trivial) rfl rfl (Nat.le_of_ble_eq_true rfl) (Nat.le_of_ble_eq_true rfl)
set_option maxHeartbeats 800000 in
set_option maxRecDepth 100000 in
theorem c_X5_settle_xB (l : Launch) (D : va_G) (cA : Nat → ClassId) (q v : Nat) (b tb r m o d : Nat → Nat) (c : Int) (S : Int → Int) (i : Int) (hfl : l.stackTraces = false) (hI : Inv S) (hi : -2147483648 ≤ i ∧ i < 2147483648) (hn : ¬ (0 ≤ i ∧ i < S 1)) : MX (U := Unit) l yX5_settle cX5_settle 2 (some .int) (rmN 26 1 6) D cA [.ref (q), .int (iI i)] [prO q v b tb r m o c, bk cA b S] eB (fun _ => True) (fun _ => [prO q v b tb r m o c, bk cA b S]) := by
  refine m_startX hfl pn_X5 rfl (by decide) (List.forall_mem_cons.mpr ⟨rfl, List.forall_mem_cons.mpr ⟨rfl, fun _ h => absurd h List.not_mem_nil⟩⟩) (Nat.le_of_ble_eq_true rfl) ?_
  intro K C e1 e2 e3 hin hR
  subst e1 e2 e3
  have hN := hI.2.1
  have hQ := hI.1
  show J K 0 0 [prO q v b tb r m o c, bk (kC K) b S] [some (.ref (q)), some (.int (iI i))] 0 []
  refine j_aload_n C dX5_settle_0 rfl ?_
  refine j_get C 0 0 0 rfl rfl rfl wU_X5 (by decide) wF_X5_12 rfl dX5_settle_1 ?_
  refine j_iload_n C dX5_settle_4 rfl ?_
  refine j_perm (pm_2_1 _ _) ?_
  refine j_callVi C (As := [.int (iI _)]) (c_X0_holds _ _ _ _ _ _ (by first | assumption | omega) (by first | assumption | omega)) 1 nf_X0_holds (jb := 0) rfl rfl wL_X5_90 wI_X0_holds wSe_X0_X0_holds wIn_X0 wC_X0_holds rfl rfl (by decide) dX5_settle_5 (Nat.le_of_ble_eq_true rfl) ⟨Nat.le_of_ble_eq_true rfl, Nat.le_of_ble_eq_true rfl⟩ (fun x5 u5 h5 => ?_)
  refine j_perm (pr_2_1 _ _) ?_
  refine j_if_ne (tgt := 21) C dX5_settle_8 (by decide) (by omega) (by omega) (fun c8 => ?_) (fun c8 => ?_)
  · exfalso; rw [h5, if_neg hn] at c8; exact c8 rfl
  · exact hR 93 66 70 _ () exW_B (List.mem_of_getElem? (i := 1) rfl) ⟨dX5_settle_11, dX5_settle_14, Or.inl ⟨dX5_settle_15, dX5_settle_17, dX5_settle_20⟩⟩ (by trivial) rfl rfl (Nat.le_of_ble_eq_true rfl) (Nat.le_of_ble_eq_true rfl)
set_option maxHeartbeats 800000 in
set_option maxRecDepth 100000 in
theorem c_X5_dispute_xC (l : Launch) (D : va_G) (cA : Nat → ClassId) (q v : Nat) (b tb r m o d : Nat → Nat) (c : Int) (S : Int → Int) (i : Int) (hfl : l.stackTraces = false) (hI : Inv S) (hi : 0 ≤ i ∧ i < S 1) (hn : ¬ (0 < am S i ∧ di S i = 0)) : MX (U := Unit) l yX5_dispute cX5_dispute 3 (some .int) (rmN 26 1 6) D cA [.ref (q), .int (iI i)] [prO q v b tb r m o c, bk cA b S] eC (fun _ => True) (fun _ => [prO q v b tb r m o c, bk cA b S]) := by
  refine m_startX hfl pn_X5 rfl (by decide) (List.forall_mem_cons.mpr ⟨rfl, List.forall_mem_cons.mpr ⟨rfl, fun _ h => absurd h List.not_mem_nil⟩⟩) (Nat.le_of_ble_eq_true rfl) ?_
  intro K C e1 e2 e3 hin hR
  subst e1 e2 e3
  have hN := hI.2.1
  have hQ := hI.1
  have f := hI.2.2 i hi.1 hi.2
  show J K 0 0 [prO q v b tb r m o c, bk (kC K) b S] [some (.ref (q)), some (.int (iI i)), none] 0 []
  refine j_aload_n C dX5_dispute_0 rfl ?_
  refine j_get C 0 0 0 rfl rfl rfl wU_X5 (by decide) wF_X5_12 rfl dX5_dispute_1 ?_
  refine j_iload_n C dX5_dispute_4 rfl ?_
  refine j_perm (pm_2_1 _ _) ?_
  refine j_callVi C (As := [.int (iI _)]) (c_X0_holds _ _ _ _ _ _ (by first | assumption | omega) (by first | assumption | omega)) 1 nf_X0_holds (jb := 0) rfl rfl wL_X5_90 wI_X0_holds wSe_X0_X0_holds wIn_X0 wC_X0_holds rfl rfl (by decide) dX5_dispute_5 (Nat.le_of_ble_eq_true rfl) ⟨Nat.le_of_ble_eq_true rfl, Nat.le_of_ble_eq_true rfl⟩ (fun x5 u5 h5 => ?_)
  refine j_perm (pr_2_1 _ _) ?_
  refine j_if_ne (tgt := 21) C dX5_dispute_8 (by decide) (by omega) (by omega) (fun c8 => ?_) (fun c8 => ?_)
  · refine j_aload_n C dX5_dispute_21 rfl ?_
    refine j_get C 0 0 0 rfl rfl rfl wU_X5 (by decide) wF_X5_12 rfl dX5_dispute_22 ?_
    refine j_iload_n C dX5_dispute_25 rfl ?_
    refine j_perm (pm_2_1 _ _) ?_
    refine j_callVi C (As := [.int (iI _)]) (c_X0_canBeDisputed _ _ _ _ _ _ (by first | assumption | omega) (by first | assumption | omega)) 1 nf_X0_canBeDisputed (jb := 0) rfl rfl wL_X5_107 wI_X0_canBeDisputed wSe_X0_X0_canBeDisputed wIn_X0 wC_X0_canBeDisputed rfl rfl (by decide) dX5_dispute_26 (Nat.le_of_ble_eq_true rfl) ⟨Nat.le_of_ble_eq_true rfl, Nat.le_of_ble_eq_true rfl⟩ (fun x26 u26 h26 => ?_)
    refine j_perm (pr_2_1 _ _) ?_
    refine j_if_ne (tgt := 42) C dX5_dispute_29 (by decide) (by omega) (by omega) (fun c29 => ?_) (fun c29 => ?_)
    · exfalso; rw [h26, if_neg (fun z => hn z.2)] at c29; exact c29 rfl
    · exact hR 110 81 85 _ () exW_C (List.mem_of_getElem? (i := 9) rfl) ⟨dX5_dispute_32, dX5_dispute_35, Or.inl ⟨dX5_dispute_36, dX5_dispute_38, dX5_dispute_41⟩⟩ (by trivial) rfl rfl (Nat.le_of_ble_eq_true rfl) (Nat.le_of_ble_eq_true rfl)
  · exact absurd c8 (by rw [h5, if_pos (by omega)]; decide)
set_option maxHeartbeats 800000 in
set_option maxRecDepth 100000 in
theorem c_X5_settle_xC (l : Launch) (D : va_G) (cA : Nat → ClassId) (q v : Nat) (b tb r m o d : Nat → Nat) (c : Int) (S : Int → Int) (i : Int) (hfl : l.stackTraces = false) (hI : Inv S) (hi : 0 ≤ i ∧ i < S 1) (hn : di S i = 0) : MX (U := Unit) l yX5_settle cX5_settle 2 (some .int) (rmN 26 1 6) D cA [.ref (q), .int (iI i)] [prO q v b tb r m o c, bk cA b S] eC (fun _ => True) (fun _ => [prO q v b tb r m o c, bk cA b S]) := by
  refine m_startX hfl pn_X5 rfl (by decide) (List.forall_mem_cons.mpr ⟨rfl, List.forall_mem_cons.mpr ⟨rfl, fun _ h => absurd h List.not_mem_nil⟩⟩) (Nat.le_of_ble_eq_true rfl) ?_
  intro K C e1 e2 e3 hin hR
  subst e1 e2 e3
  have hN := hI.2.1
  have hQ := hI.1
  have f := hI.2.2 i hi.1 hi.2
  show J K 0 0 [prO q v b tb r m o c, bk (kC K) b S] [some (.ref (q)), some (.int (iI i))] 0 []
  refine j_aload_n C dX5_settle_0 rfl ?_
  refine j_get C 0 0 0 rfl rfl rfl wU_X5 (by decide) wF_X5_12 rfl dX5_settle_1 ?_
  refine j_iload_n C dX5_settle_4 rfl ?_
  refine j_perm (pm_2_1 _ _) ?_
  refine j_callVi C (As := [.int (iI _)]) (c_X0_holds _ _ _ _ _ _ (by first | assumption | omega) (by first | assumption | omega)) 1 nf_X0_holds (jb := 0) rfl rfl wL_X5_90 wI_X0_holds wSe_X0_X0_holds wIn_X0 wC_X0_holds rfl rfl (by decide) dX5_settle_5 (Nat.le_of_ble_eq_true rfl) ⟨Nat.le_of_ble_eq_true rfl, Nat.le_of_ble_eq_true rfl⟩ (fun x5 u5 h5 => ?_)
  refine j_perm (pr_2_1 _ _) ?_
  refine j_if_ne (tgt := 21) C dX5_settle_8 (by decide) (by omega) (by omega) (fun c8 => ?_) (fun c8 => ?_)
  · refine j_aload_n C dX5_settle_21 rfl ?_
    refine j_get C 0 0 0 rfl rfl rfl wU_X5 (by decide) wF_X5_12 rfl dX5_settle_22 ?_
    refine j_getN C 1 0 12 rfl rfl rfl wU_X0 (by decide) wFN_X5_116 rfl dX5_settle_25 ?_
    refine j_iload_n C dX5_settle_28 rfl ?_
    refine j_zald C 1 8 rfl rfl dX5_settle_29 (by decide) (by omega) (by omega) ?_
    refine j_if_ne (tgt := 43) C dX5_settle_30 (by decide) (by omega) (by omega) (fun c30 => ?_) (fun c30 => ?_)
    · exfalso; omega
    · exact hR 120 81 85 _ () exW_C (List.mem_of_getElem? (i := 10) rfl) ⟨dX5_settle_33, dX5_settle_36, Or.inl ⟨dX5_settle_37, dX5_settle_39, dX5_settle_42⟩⟩ (by trivial) rfl rfl (Nat.le_of_ble_eq_true rfl) (Nat.le_of_ble_eq_true rfl)
  · exact absurd c8 (by rw [h5, if_pos (by omega)]; decide)
set_option maxHeartbeats 800000 in
set_option maxRecDepth 100000 in
theorem c_X5_discharge_xB (l : Launch) (D : va_G) (cA : Nat → ClassId) (q v : Nat) (b tb r m o d : Nat → Nat) (c : Int) (z : Int) (X F Nx f S : Int → Int) (j a : Int) (hfl : l.stackTraces = false) (hI : Inv S) (hj : -2147483648 ≤ j ∧ j < 2147483648) (hn : ¬ (0 ≤ j ∧ j < ((RS S).length : Int))) : MX (U := ((Int → Int) × (Int → Int) × (Int → Int) × (Int → Int)) × Int) l yX5_discharge cX5_discharge 3 (some .int) (rmN 26 1 6) D cA [.ref (q), .int (iI j), .int (iI a)] [prO q v b tb r m o c, rgO r (d 0) z, dbO d, [(d 1, aJ (cA 0) 49 X)], [(d 2, aJ (cA 0) 49 F)], [(d 3, aJ (cA 0) 40 Nx)], [(r 1, aJ (cA 0) 2365 f)], bk cA b S] eB (fun _ => True) (fun u => [prO q v b tb r m o c, rgO r (d 0) u.2, dbO d, [(d 1, aJ (cA 0) 49 u.1.1)], [(d 2, aJ (cA 0) 49 u.1.2.1)], [(d 3, aJ (cA 0) 40 u.1.2.2.1)], [(r 1, aJ (cA 0) 2365 u.1.2.2.2)], bk cA b S]) := by
  refine m_startX hfl pn_X5 rfl (by decide) (List.forall_mem_cons.mpr ⟨rfl, List.forall_mem_cons.mpr ⟨rfl, List.forall_mem_cons.mpr ⟨rfl, fun _ h => absurd h List.not_mem_nil⟩⟩⟩) (Nat.le_of_ble_eq_true rfl) ?_
  intro K C e1 e2 e3 hin hR
  subst e1 e2 e3
  have hN := hI.2.1
  have hQ := hI.1
  have hlen := RS_len hI
  show J K 0 0 [prO q v b tb r m o c, rgO r (d 0) z, dbO d, [(d 1, aJ ((kC K) 0) 49 X)], [(d 2, aJ ((kC K) 0) 49 F)], [(d 3, aJ ((kC K) 0) 40 Nx)], [(r 1, aJ ((kC K) 0) 2365 f)], bk (kC K) b S] [some (.ref (q)), some (.int (iI j)), some (.int (iI a))] 0 []
  refine j_iload_n C dX5_discharge_0 rfl ?_
  refine j_if_lt (tgt := 12) C dX5_discharge_1 (by decide) (by omega) (by omega) (fun c1 => ?_) (fun c1 => ?_)
  · exact hR 122 66 70 _ ((X, F, Nx, f), z) exW_B (List.mem_of_getElem? (i := 11) rfl) ⟨dX5_discharge_12, dX5_discharge_15, Or.inl ⟨dX5_discharge_16, dX5_discharge_18, dX5_discharge_21⟩⟩ (by trivial) rfl rfl (Nat.le_of_ble_eq_true rfl) (Nat.le_of_ble_eq_true rfl)
  · refine j_iload_n C dX5_discharge_4 rfl ?_
    refine j_aload_n C dX5_discharge_5 rfl ?_
    refine j_perm (pm_8_0_1_2_3_4_5_6_7 _ _ _ _ _ _ _ _) ?_
    refine j_callVi C (As := []) (c_X5_countRings _ _ _ _ _ _ _ _ _ _ (d) _ _ _ _ _ _ _ (by first | assumption | omega)) 0 nf_X5_countRings (jb := 0) rfl rfl wL_X5_112 wI_X5_countRings wSe_X5_X5_countRings wIn_X5 wC_X5_countRings rfl rfl (by decide) dX5_discharge_6 (Nat.le_of_ble_eq_true rfl) ⟨Nat.le_of_ble_eq_true rfl, Nat.le_of_ble_eq_true rfl⟩ (fun x6 u6 h6 => ?_)
    refine j_perm (pr_8_0_1_2_3_4_5_6_7 _ _ _ _ _ _ _ _) ?_
    obtain ⟨hx, hF⟩ := h6
    refine j_icmp_lt (tgt := 22) C dX5_discharge_9 (by decide) (by omega) (by omega) (by omega) (by omega) (fun c9 => ?_) (fun c9 => ?_)
    · exfalso; omega
    · exact hR 122 66 70 _ (u6, ((RS S).length : Int)) exW_B (List.mem_of_getElem? (i := 11) rfl) ⟨dX5_discharge_12, dX5_discharge_15, Or.inl ⟨dX5_discharge_16, dX5_discharge_18, dX5_discharge_21⟩⟩ (by trivial) rfl rfl (Nat.le_of_ble_eq_true rfl) (Nat.le_of_ble_eq_true rfl)
set_option maxHeartbeats 800000 in
set_option maxRecDepth 100000 in
theorem c_X5_ring_xB (l : Launch) (D : va_G) (cA : Nat → ClassId) (q v : Nat) (b tb r m o d : Nat → Nat) (c : Int) (z : Int) (X F Nx f S : Int → Int) (j a : Int) (hfl : l.stackTraces = false) (hI : Inv S) (hj : -2147483648 ≤ j ∧ j < 2147483648) (hn : ¬ (0 ≤ j ∧ j < ((RS S).length : Int))) : MX (U := ((Int → Int) × (Int → Int) × (Int → Int) × (Int → Int)) × Int) l yX5_ring cX5_ring 3 (some .int) (rmN 26 1 6) D cA [.ref (q), .int (iI j), .int (iI a)] [prO q v b tb r m o c, rgO r (d 0) z, dbO d, [(d 1, aJ (cA 0) 49 X)], [(d 2, aJ (cA 0) 49 F)], [(d 3, aJ (cA 0) 40 Nx)], [(r 1, aJ (cA 0) 2365 f)], bk cA b S] eB (fun _ => True) (fun u => [prO q v b tb r m o c, rgO r (d 0) u.2, dbO d, [(d 1, aJ (cA 0) 49 u.1.1)], [(d 2, aJ (cA 0) 49 u.1.2.1)], [(d 3, aJ (cA 0) 40 u.1.2.2.1)], [(r 1, aJ (cA 0) 2365 u.1.2.2.2)], bk cA b S]) := by
  refine m_startX hfl pn_X5 rfl (by decide) (List.forall_mem_cons.mpr ⟨rfl, List.forall_mem_cons.mpr ⟨rfl, List.forall_mem_cons.mpr ⟨rfl, fun _ h => absurd h List.not_mem_nil⟩⟩⟩) (Nat.le_of_ble_eq_true rfl) ?_
  intro K C e1 e2 e3 hin hR
  subst e1 e2 e3
  have hN := hI.2.1
  have hQ := hI.1
  have hlen := RS_len hI
  show J K 0 0 [prO q v b tb r m o c, rgO r (d 0) z, dbO d, [(d 1, aJ ((kC K) 0) 49 X)], [(d 2, aJ ((kC K) 0) 49 F)], [(d 3, aJ ((kC K) 0) 40 Nx)], [(r 1, aJ ((kC K) 0) 2365 f)], bk (kC K) b S] [some (.ref (q)), some (.int (iI j)), some (.int (iI a))] 0 []
  refine j_iload_n C dX5_ring_0 rfl ?_
  refine j_if_lt (tgt := 12) C dX5_ring_1 (by decide) (by omega) (by omega) (fun c1 => ?_) (fun c1 => ?_)
  · exact hR 122 66 70 _ ((X, F, Nx, f), z) exW_B (List.mem_of_getElem? (i := 11) rfl) ⟨dX5_ring_12, dX5_ring_15, Or.inl ⟨dX5_ring_16, dX5_ring_18, dX5_ring_21⟩⟩ (by trivial) rfl rfl (Nat.le_of_ble_eq_true rfl) (Nat.le_of_ble_eq_true rfl)
  · refine j_iload_n C dX5_ring_4 rfl ?_
    refine j_aload_n C dX5_ring_5 rfl ?_
    refine j_perm (pm_8_0_1_2_3_4_5_6_7 _ _ _ _ _ _ _ _) ?_
    refine j_callVi C (As := []) (c_X5_countRings _ _ _ _ _ _ _ _ _ _ (d) _ _ _ _ _ _ _ (by first | assumption | omega)) 0 nf_X5_countRings (jb := 0) rfl rfl wL_X5_112 wI_X5_countRings wSe_X5_X5_countRings wIn_X5 wC_X5_countRings rfl rfl (by decide) dX5_ring_6 (Nat.le_of_ble_eq_true rfl) ⟨Nat.le_of_ble_eq_true rfl, Nat.le_of_ble_eq_true rfl⟩ (fun x6 u6 h6 => ?_)
    refine j_perm (pr_8_0_1_2_3_4_5_6_7 _ _ _ _ _ _ _ _) ?_
    obtain ⟨hx, hF⟩ := h6
    refine j_icmp_lt (tgt := 22) C dX5_ring_9 (by decide) (by omega) (by omega) (by omega) (by omega) (fun c9 => ?_) (fun c9 => ?_)
    · exfalso; omega
    · exact hR 122 66 70 _ (u6, ((RS S).length : Int)) exW_B (List.mem_of_getElem? (i := 11) rfl) ⟨dX5_ring_12, dX5_ring_15, Or.inl ⟨dX5_ring_16, dX5_ring_18, dX5_ring_21⟩⟩ (by trivial) rfl rfl (Nat.le_of_ble_eq_true rfl) (Nat.le_of_ble_eq_true rfl)
set_option maxHeartbeats 800000 in
set_option maxRecDepth 100000 in
theorem c_X5_room_xB (l : Launch) (D : va_G) (cA : Nat → ClassId) (q v : Nat) (b tb r m o d : Nat → Nat) (c : Int) (z : Int) (X F Nx f S : Int → Int) (j : Int) (hfl : l.stackTraces = false) (hI : Inv S) (hj : -2147483648 ≤ j ∧ j < 2147483648) (hn : ¬ (0 ≤ j ∧ j < ((RS S).length : Int))) : MX (U := ((Int → Int) × (Int → Int) × (Int → Int) × (Int → Int)) × Int) l yX5_room cX5_room 2 (some .int) (rmN 26 1 6) D cA [.ref (q), .int (iI j)] [prO q v b tb r m o c, rgO r (d 0) z, dbO d, [(d 1, aJ (cA 0) 49 X)], [(d 2, aJ (cA 0) 49 F)], [(d 3, aJ (cA 0) 40 Nx)], [(r 1, aJ (cA 0) 2365 f)], bk cA b S] eB (fun _ => True) (fun u => [prO q v b tb r m o c, rgO r (d 0) u.2, dbO d, [(d 1, aJ (cA 0) 49 u.1.1)], [(d 2, aJ (cA 0) 49 u.1.2.1)], [(d 3, aJ (cA 0) 40 u.1.2.2.1)], [(r 1, aJ (cA 0) 2365 u.1.2.2.2)], bk cA b S]) := by
  refine m_startX hfl pn_X5 rfl (by decide) (List.forall_mem_cons.mpr ⟨rfl, List.forall_mem_cons.mpr ⟨rfl, fun _ h => absurd h List.not_mem_nil⟩⟩) (Nat.le_of_ble_eq_true rfl) ?_
  intro K C e1 e2 e3 hin hR
  subst e1 e2 e3
  have hN := hI.2.1
  have hQ := hI.1
  have hlen := RS_len hI
  show J K 0 0 [prO q v b tb r m o c, rgO r (d 0) z, dbO d, [(d 1, aJ ((kC K) 0) 49 X)], [(d 2, aJ ((kC K) 0) 49 F)], [(d 3, aJ ((kC K) 0) 40 Nx)], [(r 1, aJ ((kC K) 0) 2365 f)], bk (kC K) b S] [some (.ref (q)), some (.int (iI j))] 0 []
  refine j_iload_n C dX5_room_0 rfl ?_
  refine j_if_lt (tgt := 12) C dX5_room_1 (by decide) (by omega) (by omega) (fun c1 => ?_) (fun c1 => ?_)
  · exact hR 122 66 70 _ ((X, F, Nx, f), z) exW_B (List.mem_of_getElem? (i := 11) rfl) ⟨dX5_room_12, dX5_room_15, Or.inl ⟨dX5_room_16, dX5_room_18, dX5_room_21⟩⟩ (by trivial) rfl rfl (Nat.le_of_ble_eq_true rfl) (Nat.le_of_ble_eq_true rfl)
  · refine j_iload_n C dX5_room_4 rfl ?_
    refine j_aload_n C dX5_room_5 rfl ?_
    refine j_perm (pm_8_0_1_2_3_4_5_6_7 _ _ _ _ _ _ _ _) ?_
    refine j_callVi C (As := []) (c_X5_countRings _ _ _ _ _ _ _ _ _ _ (d) _ _ _ _ _ _ _ (by first | assumption | omega)) 0 nf_X5_countRings (jb := 0) rfl rfl wL_X5_112 wI_X5_countRings wSe_X5_X5_countRings wIn_X5 wC_X5_countRings rfl rfl (by decide) dX5_room_6 (Nat.le_of_ble_eq_true rfl) ⟨Nat.le_of_ble_eq_true rfl, Nat.le_of_ble_eq_true rfl⟩ (fun x6 u6 h6 => ?_)
    refine j_perm (pr_8_0_1_2_3_4_5_6_7 _ _ _ _ _ _ _ _) ?_
    obtain ⟨hx, hF⟩ := h6
    refine j_icmp_lt (tgt := 22) C dX5_room_9 (by decide) (by omega) (by omega) (by omega) (by omega) (fun c9 => ?_) (fun c9 => ?_)
    · exfalso; omega
    · exact hR 122 66 70 _ (u6, ((RS S).length : Int)) exW_B (List.mem_of_getElem? (i := 11) rfl) ⟨dX5_room_12, dX5_room_15, Or.inl ⟨dX5_room_16, dX5_room_18, dX5_room_21⟩⟩ (by trivial) rfl rfl (Nat.le_of_ble_eq_true rfl) (Nat.le_of_ble_eq_true rfl)
set_option maxHeartbeats 800000 in
set_option maxRecDepth 100000 in
theorem c_X5_saving_xB (l : Launch) (D : va_G) (cA : Nat → ClassId) (q v : Nat) (b tb r m o d : Nat → Nat) (c : Int) (z : Int) (X F Nx f S : Int → Int) (j : Int) (hfl : l.stackTraces = false) (hI : Inv S) (hj : -2147483648 ≤ j ∧ j < 2147483648) (hn : ¬ (0 ≤ j ∧ j < ((RS S).length : Int))) : MX (U := ((Int → Int) × (Int → Int) × (Int → Int) × (Int → Int)) × Int) l yX5_saving cX5_saving 2 (some .int) (rmN 26 1 6) D cA [.ref (q), .int (iI j)] [prO q v b tb r m o c, rgO r (d 0) z, dbO d, [(d 1, aJ (cA 0) 49 X)], [(d 2, aJ (cA 0) 49 F)], [(d 3, aJ (cA 0) 40 Nx)], [(r 1, aJ (cA 0) 2365 f)], bk cA b S] eB (fun _ => True) (fun u => [prO q v b tb r m o c, rgO r (d 0) u.2, dbO d, [(d 1, aJ (cA 0) 49 u.1.1)], [(d 2, aJ (cA 0) 49 u.1.2.1)], [(d 3, aJ (cA 0) 40 u.1.2.2.1)], [(r 1, aJ (cA 0) 2365 u.1.2.2.2)], bk cA b S]) := by
  refine m_startX hfl pn_X5 rfl (by decide) (List.forall_mem_cons.mpr ⟨rfl, List.forall_mem_cons.mpr ⟨rfl, fun _ h => absurd h List.not_mem_nil⟩⟩) (Nat.le_of_ble_eq_true rfl) ?_
  intro K C e1 e2 e3 hin hR
  subst e1 e2 e3
  have hN := hI.2.1
  have hQ := hI.1
  have hlen := RS_len hI
  show J K 0 0 [prO q v b tb r m o c, rgO r (d 0) z, dbO d, [(d 1, aJ ((kC K) 0) 49 X)], [(d 2, aJ ((kC K) 0) 49 F)], [(d 3, aJ ((kC K) 0) 40 Nx)], [(r 1, aJ ((kC K) 0) 2365 f)], bk (kC K) b S] [some (.ref (q)), some (.int (iI j))] 0 []
  refine j_iload_n C dX5_saving_0 rfl ?_
  refine j_if_lt (tgt := 12) C dX5_saving_1 (by decide) (by omega) (by omega) (fun c1 => ?_) (fun c1 => ?_)
  · exact hR 122 66 70 _ ((X, F, Nx, f), z) exW_B (List.mem_of_getElem? (i := 11) rfl) ⟨dX5_saving_12, dX5_saving_15, Or.inl ⟨dX5_saving_16, dX5_saving_18, dX5_saving_21⟩⟩ (by trivial) rfl rfl (Nat.le_of_ble_eq_true rfl) (Nat.le_of_ble_eq_true rfl)
  · refine j_iload_n C dX5_saving_4 rfl ?_
    refine j_aload_n C dX5_saving_5 rfl ?_
    refine j_perm (pm_8_0_1_2_3_4_5_6_7 _ _ _ _ _ _ _ _) ?_
    refine j_callVi C (As := []) (c_X5_countRings _ _ _ _ _ _ _ _ _ _ (d) _ _ _ _ _ _ _ (by first | assumption | omega)) 0 nf_X5_countRings (jb := 0) rfl rfl wL_X5_112 wI_X5_countRings wSe_X5_X5_countRings wIn_X5 wC_X5_countRings rfl rfl (by decide) dX5_saving_6 (Nat.le_of_ble_eq_true rfl) ⟨Nat.le_of_ble_eq_true rfl, Nat.le_of_ble_eq_true rfl⟩ (fun x6 u6 h6 => ?_)
    refine j_perm (pr_8_0_1_2_3_4_5_6_7 _ _ _ _ _ _ _ _) ?_
    obtain ⟨hx, hF⟩ := h6
    refine j_icmp_lt (tgt := 22) C dX5_saving_9 (by decide) (by omega) (by omega) (by omega) (by omega) (fun c9 => ?_) (fun c9 => ?_)
    · exfalso; omega
    · exact hR 122 66 70 _ (u6, ((RS S).length : Int)) exW_B (List.mem_of_getElem? (i := 11) rfl) ⟨dX5_saving_12, dX5_saving_15, Or.inl ⟨dX5_saving_16, dX5_saving_18, dX5_saving_21⟩⟩ (by trivial) rfl rfl (Nat.le_of_ble_eq_true rfl) (Nat.le_of_ble_eq_true rfl)
set_option maxHeartbeats 800000 in
set_option maxRecDepth 100000 in
theorem c_X5_discharge_xA (l : Launch) (D : va_G) (cA : Nat → ClassId) (q v : Nat) (b tb r m o d : Nat → Nat) (c : Int) (z : Int) (X F Nx f S : Int → Int) (j a : Int) (hfl : l.stackTraces = false) (hI : Inv S) (hj : 0 ≤ j ∧ j < ((RS S).length : Int)) (ha : -2147483648 ≤ a ∧ a < 2147483648) (hn : a < 1) : MX (U := ((Int → Int) × (Int → Int) × (Int → Int) × (Int → Int)) × Int) l yX5_discharge cX5_discharge 3 (some .int) (rmN 26 1 6) D cA [.ref (q), .int (iI j), .int (iI a)] [prO q v b tb r m o c, rgO r (d 0) z, dbO d, [(d 1, aJ (cA 0) 49 X)], [(d 2, aJ (cA 0) 49 F)], [(d 3, aJ (cA 0) 40 Nx)], [(r 1, aJ (cA 0) 2365 f)], bk cA b S] eA (fun _ => True) (fun u => [prO q v b tb r m o c, rgO r (d 0) u.2, dbO d, [(d 1, aJ (cA 0) 49 u.1.1)], [(d 2, aJ (cA 0) 49 u.1.2.1)], [(d 3, aJ (cA 0) 40 u.1.2.2.1)], [(r 1, aJ (cA 0) 2365 u.1.2.2.2)], bk cA b S]) := by
  refine m_startX hfl pn_X5 rfl (by decide) (List.forall_mem_cons.mpr ⟨rfl, List.forall_mem_cons.mpr ⟨rfl, List.forall_mem_cons.mpr ⟨rfl, fun _ h => absurd h List.not_mem_nil⟩⟩⟩) (Nat.le_of_ble_eq_true rfl) ?_
  intro K C e1 e2 e3 hin hR
  subst e1 e2 e3
  have hN := hI.2.1
  have hQ := hI.1
  have hlen := RS_len hI
  have hpr := RS_get (S := S) hj.1 hj.2
  have hrb := room_bd hI hpr
  show J K 0 0 [prO q v b tb r m o c, rgO r (d 0) z, dbO d, [(d 1, aJ ((kC K) 0) 49 X)], [(d 2, aJ ((kC K) 0) 49 F)], [(d 3, aJ ((kC K) 0) 40 Nx)], [(r 1, aJ ((kC K) 0) 2365 f)], bk (kC K) b S] [some (.ref (q)), some (.int (iI j)), some (.int (iI a))] 0 []
  refine j_iload_n C dX5_discharge_0 rfl ?_
  refine j_if_lt (tgt := 12) C dX5_discharge_1 (by decide) (by omega) (by omega) (fun c1 => ?_) (fun c1 => ?_)
  · exfalso; omega
  · refine j_iload_n C dX5_discharge_4 rfl ?_
    refine j_aload_n C dX5_discharge_5 rfl ?_
    refine j_perm (pm_8_0_1_2_3_4_5_6_7 _ _ _ _ _ _ _ _) ?_
    refine j_callVi C (As := []) (c_X5_countRings _ _ _ _ _ _ _ _ _ _ (d) _ _ _ _ _ _ _ (by first | assumption | omega)) 0 nf_X5_countRings (jb := 0) rfl rfl wL_X5_112 wI_X5_countRings wSe_X5_X5_countRings wIn_X5 wC_X5_countRings rfl rfl (by decide) dX5_discharge_6 (Nat.le_of_ble_eq_true rfl) ⟨Nat.le_of_ble_eq_true rfl, Nat.le_of_ble_eq_true rfl⟩ (fun x6 u6 h6 => ?_)
    refine j_perm (pr_8_0_1_2_3_4_5_6_7 _ _ _ _ _ _ _ _) ?_
    obtain ⟨hx, hF⟩ := h6
    refine j_icmp_lt (tgt := 22) C dX5_discharge_9 (by decide) (by omega) (by omega) (by omega) (by omega) (fun c9 => ?_) (fun c9 => ?_)
    · refine j_iload_n C dX5_discharge_22 rfl ?_
      refine j_iconst C dX5_discharge_23 ?_
      refine j_icmp_ge (tgt := 37) C dX5_discharge_24 (by decide) (by omega) (by omega) (by omega) (by omega) (fun c24 => ?_) (fun c24 => ?_)
      · exfalso; omega
      · exact hR 124 44 48 _ (u6, ((RS S).length : Int)) exW_A (List.mem_of_getElem? (i := 12) rfl) ⟨dX5_discharge_27, dX5_discharge_30, Or.inl ⟨dX5_discharge_31, dX5_discharge_33, dX5_discharge_36⟩⟩ (by trivial) rfl rfl (Nat.le_of_ble_eq_true rfl) (Nat.le_of_ble_eq_true rfl)
    · exfalso; omega
set_option maxHeartbeats 800000 in
set_option maxRecDepth 100000 in
theorem c_X5_discharge_xC (l : Launch) (D : va_G) (cA : Nat → ClassId) (q v : Nat) (b tb r m o d : Nat → Nat) (c : Int) (z : Int) (X F Nx f S : Int → Int) (j a : Int) (hfl : l.stackTraces = false) (hI : Inv S) (hj : 0 ≤ j ∧ j < ((RS S).length : Int)) (ha : -2147483648 ≤ a ∧ a < 2147483648) (ha1 : 1 ≤ a) (hn : room S ((RS S).getD j.toNat []) < a) : MX (U := ((Int → Int) × (Int → Int) × (Int → Int) × (Int → Int)) × Int) l yX5_discharge cX5_discharge 3 (some .int) (rmN 26 1 6) D cA [.ref (q), .int (iI j), .int (iI a)] [prO q v b tb r m o c, rgO r (d 0) z, dbO d, [(d 1, aJ (cA 0) 49 X)], [(d 2, aJ (cA 0) 49 F)], [(d 3, aJ (cA 0) 40 Nx)], [(r 1, aJ (cA 0) 2365 f)], bk cA b S] eC (fun _ => True) (fun u => [prO q v b tb r m o c, rgO r (d 0) u.2, dbO d, [(d 1, aJ (cA 0) 49 u.1.1)], [(d 2, aJ (cA 0) 49 u.1.2.1)], [(d 3, aJ (cA 0) 40 u.1.2.2.1)], [(r 1, aJ (cA 0) 2365 u.1.2.2.2)], bk cA b S]) := by
  refine m_startX hfl pn_X5 rfl (by decide) (List.forall_mem_cons.mpr ⟨rfl, List.forall_mem_cons.mpr ⟨rfl, List.forall_mem_cons.mpr ⟨rfl, fun _ h => absurd h List.not_mem_nil⟩⟩⟩) (Nat.le_of_ble_eq_true rfl) ?_
  intro K C e1 e2 e3 hin hR
  subst e1 e2 e3
  have hN := hI.2.1
  have hQ := hI.1
  have hlen := RS_len hI
  have hpr := RS_get (S := S) hj.1 hj.2
  have hrb := room_bd hI hpr
  show J K 0 0 [prO q v b tb r m o c, rgO r (d 0) z, dbO d, [(d 1, aJ ((kC K) 0) 49 X)], [(d 2, aJ ((kC K) 0) 49 F)], [(d 3, aJ ((kC K) 0) 40 Nx)], [(r 1, aJ ((kC K) 0) 2365 f)], bk (kC K) b S] [some (.ref (q)), some (.int (iI j)), some (.int (iI a))] 0 []
  refine j_iload_n C dX5_discharge_0 rfl ?_
  refine j_if_lt (tgt := 12) C dX5_discharge_1 (by decide) (by omega) (by omega) (fun c1 => ?_) (fun c1 => ?_)
  · exfalso; omega
  · refine j_iload_n C dX5_discharge_4 rfl ?_
    refine j_aload_n C dX5_discharge_5 rfl ?_
    refine j_perm (pm_8_0_1_2_3_4_5_6_7 _ _ _ _ _ _ _ _) ?_
    refine j_callVi C (As := []) (c_X5_countRings _ _ _ _ _ _ _ _ _ _ (d) _ _ _ _ _ _ _ (by first | assumption | omega)) 0 nf_X5_countRings (jb := 0) rfl rfl wL_X5_112 wI_X5_countRings wSe_X5_X5_countRings wIn_X5 wC_X5_countRings rfl rfl (by decide) dX5_discharge_6 (Nat.le_of_ble_eq_true rfl) ⟨Nat.le_of_ble_eq_true rfl, Nat.le_of_ble_eq_true rfl⟩ (fun x6 u6 h6 => ?_)
    refine j_perm (pr_8_0_1_2_3_4_5_6_7 _ _ _ _ _ _ _ _) ?_
    obtain ⟨hx, hF⟩ := h6
    refine j_icmp_lt (tgt := 22) C dX5_discharge_9 (by decide) (by omega) (by omega) (by omega) (by omega) (fun c9 => ?_) (fun c9 => ?_)
    · refine j_iload_n C dX5_discharge_22 rfl ?_
      refine j_iconst C dX5_discharge_23 ?_
      refine j_icmp_ge (tgt := 37) C dX5_discharge_24 (by decide) (by omega) (by omega) (by omega) (by omega) (fun c24 => ?_) (fun c24 => ?_)
      · refine j_iload_n C dX5_discharge_37 rfl ?_
        refine j_aload_n C dX5_discharge_38 rfl ?_
        refine j_get C 0 0 2 rfl rfl rfl wU_X5 (by decide) wF_X5_22 rfl dX5_discharge_39 ?_
        refine j_iload_n C dX5_discharge_42 rfl ?_
        refine j_perm (pm_8_1_2_3_4_5_6 _ _ _ _ _ _ _ _) ?_
        refine j_callVi C (As := [.int (iI _)]) (c_X4_roomAt _ _ _ _ _ _ _ _ _ _ _ _ (by first | assumption | omega) (by exact hF) (by first | assumption | omega)) 1 nf_X4_roomAt (jb := 0) rfl rfl wL_X5_126 wI_X4_roomAt wSe_X4_X4_roomAt wIn_X4 wC_X4_roomAt rfl rfl (by decide) dX5_discharge_43 (Nat.le_of_ble_eq_true rfl) ⟨Nat.le_of_ble_eq_true rfl, Nat.le_of_ble_eq_true rfl⟩ (fun x43 u43 h43 => ?_)
        refine j_perm (pr_8_1_2_3_4_5_6 _ _ _ _ _ _ _ _) ?_
        refine j_icmp_le (tgt := 59) C dX5_discharge_46 (by decide) (by omega) (by omega) (by omega) (by omega) (fun c46 => ?_) (fun c46 => ?_)
        · exfalso; omega
        · exact hR 130 81 85 _ (u6, ((RS S).length : Int)) exW_C (List.mem_of_getElem? (i := 13) rfl) ⟨dX5_discharge_49, dX5_discharge_52, Or.inl ⟨dX5_discharge_53, dX5_discharge_55, dX5_discharge_58⟩⟩ (by trivial) rfl rfl (Nat.le_of_ble_eq_true rfl) (Nat.le_of_ble_eq_true rfl)
      · exfalso; omega
    · exfalso; omega
set_option maxHeartbeats 800000 in
set_option maxRecDepth 100000 in
theorem c_X5_ring_xA (l : Launch) (D : va_G) (cA : Nat → ClassId) (q v : Nat) (b tb r m o d : Nat → Nat) (c : Int) (z : Int) (X F Nx f S : Int → Int) (j a : Int) (hfl : l.stackTraces = false) (hI : Inv S) (hj : 0 ≤ j ∧ j < ((RS S).length : Int)) (ha : -2147483648 ≤ a ∧ a < 2147483648) (hn : ¬ (0 ≤ a ∧ a < 7)) : MX (U := ((Int → Int) × (Int → Int) × (Int → Int) × (Int → Int)) × Int) l yX5_ring cX5_ring 3 (some .int) (rmN 26 1 6) D cA [.ref (q), .int (iI j), .int (iI a)] [prO q v b tb r m o c, rgO r (d 0) z, dbO d, [(d 1, aJ (cA 0) 49 X)], [(d 2, aJ (cA 0) 49 F)], [(d 3, aJ (cA 0) 40 Nx)], [(r 1, aJ (cA 0) 2365 f)], bk cA b S] eA (fun _ => True) (fun u => [prO q v b tb r m o c, rgO r (d 0) u.2, dbO d, [(d 1, aJ (cA 0) 49 u.1.1)], [(d 2, aJ (cA 0) 49 u.1.2.1)], [(d 3, aJ (cA 0) 40 u.1.2.2.1)], [(r 1, aJ (cA 0) 2365 u.1.2.2.2)], bk cA b S]) := by
  refine m_startX hfl pn_X5 rfl (by decide) (List.forall_mem_cons.mpr ⟨rfl, List.forall_mem_cons.mpr ⟨rfl, List.forall_mem_cons.mpr ⟨rfl, fun _ h => absurd h List.not_mem_nil⟩⟩⟩) (Nat.le_of_ble_eq_true rfl) ?_
  intro K C e1 e2 e3 hin hR
  subst e1 e2 e3
  have hN := hI.2.1
  have hQ := hI.1
  have hlen := RS_len hI
  have hpr := RS_get (S := S) hj.1 hj.2
  have hrb := room_bd hI hpr
  show J K 0 0 [prO q v b tb r m o c, rgO r (d 0) z, dbO d, [(d 1, aJ ((kC K) 0) 49 X)], [(d 2, aJ ((kC K) 0) 49 F)], [(d 3, aJ ((kC K) 0) 40 Nx)], [(r 1, aJ ((kC K) 0) 2365 f)], bk (kC K) b S] [some (.ref (q)), some (.int (iI j)), some (.int (iI a))] 0 []
  refine j_iload_n C dX5_ring_0 rfl ?_
  refine j_if_lt (tgt := 12) C dX5_ring_1 (by decide) (by omega) (by omega) (fun c1 => ?_) (fun c1 => ?_)
  · exfalso; omega
  · refine j_iload_n C dX5_ring_4 rfl ?_
    refine j_aload_n C dX5_ring_5 rfl ?_
    refine j_perm (pm_8_0_1_2_3_4_5_6_7 _ _ _ _ _ _ _ _) ?_
    refine j_callVi C (As := []) (c_X5_countRings _ _ _ _ _ _ _ _ _ _ (d) _ _ _ _ _ _ _ (by first | assumption | omega)) 0 nf_X5_countRings (jb := 0) rfl rfl wL_X5_112 wI_X5_countRings wSe_X5_X5_countRings wIn_X5 wC_X5_countRings rfl rfl (by decide) dX5_ring_6 (Nat.le_of_ble_eq_true rfl) ⟨Nat.le_of_ble_eq_true rfl, Nat.le_of_ble_eq_true rfl⟩ (fun x6 u6 h6 => ?_)
    refine j_perm (pr_8_0_1_2_3_4_5_6_7 _ _ _ _ _ _ _ _) ?_
    obtain ⟨hx, hF⟩ := h6
    refine j_icmp_lt (tgt := 22) C dX5_ring_9 (by decide) (by omega) (by omega) (by omega) (by omega) (fun c9 => ?_) (fun c9 => ?_)
    · refine j_iload_n C dX5_ring_22 rfl ?_
      refine j_if_lt (tgt := 32) C dX5_ring_23 (by decide) (by omega) (by omega) (fun c23 => ?_) (fun c23 => ?_)
      · exact hR 172 44 48 _ (u6, ((RS S).length : Int)) exW_A (List.mem_of_getElem? (i := 15) rfl) ⟨dX5_ring_32, dX5_ring_35, Or.inl ⟨dX5_ring_36, dX5_ring_38, dX5_ring_41⟩⟩ (by trivial) rfl rfl (Nat.le_of_ble_eq_true rfl) (Nat.le_of_ble_eq_true rfl)
      · refine j_iload_n C dX5_ring_26 rfl ?_
        refine j_bipush C dX5_ring_27 (by decide) ?_
        refine j_icmp_lt (tgt := 42) C dX5_ring_29 (by decide) (by omega) (by omega) (by omega) (by omega) (fun c29 => ?_) (fun c29 => ?_)
        · exfalso; omega
        · exact hR 172 44 48 _ (u6, ((RS S).length : Int)) exW_A (List.mem_of_getElem? (i := 15) rfl) ⟨dX5_ring_32, dX5_ring_35, Or.inl ⟨dX5_ring_36, dX5_ring_38, dX5_ring_41⟩⟩ (by trivial) rfl rfl (Nat.le_of_ble_eq_true rfl) (Nat.le_of_ble_eq_true rfl)
    · exfalso; omega
set_option maxHeartbeats 800000 in
set_option maxRecDepth 100000 in
theorem c_X5_dischargeBest_xC (l : Launch) (D : va_G) (cA : Nat → ClassId) (q v : Nat) (b tb r m o d : Nat → Nat) (c : Int) (z : Int) (X F Nx f S : Int → Int) (hfl : l.stackTraces = false) (hI : Inv S) (hn : (RS S).length = 0) : MX (U := ((Int → Int) × (Int → Int) × (Int → Int) × (Int → Int)) × Int) l yX5_dischargeBest cX5_dischargeBest 1 (some .int) (rmN 26 1 6) D cA [.ref (q)] [prO q v b tb r m o c, rgO r (d 0) z, dbO d, [(d 1, aJ (cA 0) 49 X)], [(d 2, aJ (cA 0) 49 F)], [(d 3, aJ (cA 0) 40 Nx)], [(r 1, aJ (cA 0) 2365 f)], bk cA b S] eC (fun _ => True) (fun u => [prO q v b tb r m o c, rgO r (d 0) u.2, dbO d, [(d 1, aJ (cA 0) 49 u.1.1)], [(d 2, aJ (cA 0) 49 u.1.2.1)], [(d 3, aJ (cA 0) 40 u.1.2.2.1)], [(r 1, aJ (cA 0) 2365 u.1.2.2.2)], bk cA b S]) := by
  refine m_startX hfl pn_X5 rfl (by decide) (List.forall_mem_cons.mpr ⟨rfl, fun _ h => absurd h List.not_mem_nil⟩) (Nat.le_of_ble_eq_true rfl) ?_
  intro K C e1 e2 e3 hin hR
  subst e1 e2 e3
  have hN := hI.2.1
  have hQ := hI.1
  have hlen := RS_len hI
  show J K 0 0 [prO q v b tb r m o c, rgO r (d 0) z, dbO d, [(d 1, aJ ((kC K) 0) 49 X)], [(d 2, aJ ((kC K) 0) 49 F)], [(d 3, aJ ((kC K) 0) 40 Nx)], [(r 1, aJ ((kC K) 0) 2365 f)], bk (kC K) b S] [some (.ref (q))] 0 []
  refine j_aload_n C dX5_dischargeBest_0 rfl ?_
  refine j_perm (pm_8_0_1_2_3_4_5_6_7 _ _ _ _ _ _ _ _) ?_
  refine j_callVi C (As := []) (c_X5_countRings _ _ _ _ _ _ _ _ _ _ (d) _ _ _ _ _ _ _ (by first | assumption | omega)) 0 nf_X5_countRings (jb := 0) rfl rfl wL_X5_112 wI_X5_countRings wSe_X5_X5_countRings wIn_X5 wC_X5_countRings rfl rfl (by decide) dX5_dischargeBest_1 (Nat.le_of_ble_eq_true rfl) ⟨Nat.le_of_ble_eq_true rfl, Nat.le_of_ble_eq_true rfl⟩ (fun x1 u1 h1 => ?_)
  refine j_perm (pr_8_0_1_2_3_4_5_6_7 _ _ _ _ _ _ _ _) ?_
  obtain ⟨hx, hF⟩ := h1
  refine j_if_ne (tgt := 17) C dX5_dischargeBest_4 (by decide) (by omega) (by omega) (fun c4 => ?_) (fun c4 => ?_)
  · exfalso; omega
  · exact hR 136 81 85 _ (u1, ((RS S).length : Int)) exW_C (List.mem_of_getElem? (i := 14) rfl) ⟨dX5_dischargeBest_7, dX5_dischargeBest_10, Or.inl ⟨dX5_dischargeBest_11, dX5_dischargeBest_13, dX5_dischargeBest_16⟩⟩ (by trivial) rfl rfl (Nat.le_of_ble_eq_true rfl) (Nat.le_of_ble_eq_true rfl)
set_option maxHeartbeats 800000 in
set_option maxRecDepth 100000 in
theorem c_X5_promiseOf_xB (l : Launch) (D : va_G) (cA : Nat → ClassId) (q v : Nat) (b tb r m o d : Nat → Nat) (c : Int) (S : Int → Int) (i w : Int) (hfl : l.stackTraces = false) (hI : Inv S) (hi : -2147483648 ≤ i ∧ i < 2147483648) (hn : ¬ (0 ≤ i ∧ i < S 1)) : MX (U := Unit) l yX5_promiseOf cX5_promiseOf 3 (some .int) (rmN 26 1 6) D cA [.ref (q), .int (iI i), .int (iI w)] [prO q v b tb r m o c, bk cA b S] eB (fun _ => True) (fun _ => [prO q v b tb r m o c, bk cA b S]) := by
  refine m_startX hfl pn_X5 rfl (by decide) (List.forall_mem_cons.mpr ⟨rfl, List.forall_mem_cons.mpr ⟨rfl, List.forall_mem_cons.mpr ⟨rfl, fun _ h => absurd h List.not_mem_nil⟩⟩⟩) (Nat.le_of_ble_eq_true rfl) ?_
  intro K C e1 e2 e3 hin hR
  subst e1 e2 e3
  have hN := hI.2.1
  have hQ := hI.1
  show J K 0 0 [prO q v b tb r m o c, bk (kC K) b S] [some (.ref (q)), some (.int (iI i)), some (.int (iI w))] 0 []
  refine j_aload_n C dX5_promiseOf_0 rfl ?_
  refine j_get C 0 0 0 rfl rfl rfl wU_X5 (by decide) wF_X5_12 rfl dX5_promiseOf_1 ?_
  refine j_iload_n C dX5_promiseOf_4 rfl ?_
  refine j_perm (pm_2_1 _ _) ?_
  refine j_callVi C (As := [.int (iI _)]) (c_X0_holds _ _ _ _ _ _ (by first | assumption | omega) (by first | assumption | omega)) 1 nf_X0_holds (jb := 0) rfl rfl wL_X5_90 wI_X0_holds wSe_X0_X0_holds wIn_X0 wC_X0_holds rfl rfl (by decide) dX5_promiseOf_5 (Nat.le_of_ble_eq_true rfl) ⟨Nat.le_of_ble_eq_true rfl, Nat.le_of_ble_eq_true rfl⟩ (fun x5 u5 h5 => ?_)
  refine j_perm (pr_2_1 _ _) ?_
  refine j_if_ne (tgt := 21) C dX5_promiseOf_8 (by decide) (by omega) (by omega) (fun c8 => ?_) (fun c8 => ?_)
  · exfalso; rw [h5, if_neg hn] at c8; exact c8 rfl
  · exact hR 93 66 70 _ () exW_B (List.mem_of_getElem? (i := 1) rfl) ⟨dX5_promiseOf_11, dX5_promiseOf_14, Or.inl ⟨dX5_promiseOf_15, dX5_promiseOf_17, dX5_promiseOf_20⟩⟩ (by trivial) rfl rfl (Nat.le_of_ble_eq_true rfl) (Nat.le_of_ble_eq_true rfl)
set_option maxHeartbeats 800000 in
set_option maxRecDepth 100000 in
theorem c_X5_promiseOf_xA (l : Launch) (D : va_G) (cA : Nat → ClassId) (q v : Nat) (b tb r m o d : Nat → Nat) (c : Int) (S : Int → Int) (i w : Int) (hfl : l.stackTraces = false) (hI : Inv S) (hi : 0 ≤ i ∧ i < S 1) (hw : -2147483648 ≤ w ∧ w < 2147483648) (hn : ¬ (0 ≤ w ∧ w ≤ 7)) : MX (U := Unit) l yX5_promiseOf cX5_promiseOf 3 (some .int) (rmN 26 1 6) D cA [.ref (q), .int (iI i), .int (iI w)] [prO q v b tb r m o c, bk cA b S] eA (fun _ => True) (fun _ => [prO q v b tb r m o c, bk cA b S]) := by
  refine m_startX hfl pn_X5 rfl (by decide) (List.forall_mem_cons.mpr ⟨rfl, List.forall_mem_cons.mpr ⟨rfl, List.forall_mem_cons.mpr ⟨rfl, fun _ h => absurd h List.not_mem_nil⟩⟩⟩) (Nat.le_of_ble_eq_true rfl) ?_
  intro K C e1 e2 e3 hin hR
  subst e1 e2 e3
  have hN := hI.2.1
  have hQ := hI.1
  show J K 0 0 [prO q v b tb r m o c, bk (kC K) b S] [some (.ref (q)), some (.int (iI i)), some (.int (iI w))] 0 []
  refine j_aload_n C dX5_promiseOf_0 rfl ?_
  refine j_get C 0 0 0 rfl rfl rfl wU_X5 (by decide) wF_X5_12 rfl dX5_promiseOf_1 ?_
  refine j_iload_n C dX5_promiseOf_4 rfl ?_
  refine j_perm (pm_2_1 _ _) ?_
  refine j_callVi C (As := [.int (iI _)]) (c_X0_holds _ _ _ _ _ _ (by first | assumption | omega) (by first | assumption | omega)) 1 nf_X0_holds (jb := 0) rfl rfl wL_X5_90 wI_X0_holds wSe_X0_X0_holds wIn_X0 wC_X0_holds rfl rfl (by decide) dX5_promiseOf_5 (Nat.le_of_ble_eq_true rfl) ⟨Nat.le_of_ble_eq_true rfl, Nat.le_of_ble_eq_true rfl⟩ (fun x5 u5 h5 => ?_)
  refine j_perm (pr_2_1 _ _) ?_
  refine j_if_ne (tgt := 21) C dX5_promiseOf_8 (by decide) (by omega) (by omega) (fun c8 => ?_) (fun c8 => ?_)
  · refine j_iload_n C dX5_promiseOf_21 rfl ?_
    refine j_tabOut (tgt := 156) C dX5_promiseOf_22 (by omega) (by omega) (by omega) (by decide) ?_
    exact hR 163 44 48 _ () exW_A (List.mem_of_getElem? (i := 2) rfl) ⟨dX5_promiseOf_156, dX5_promiseOf_159, Or.inl ⟨dX5_promiseOf_160, dX5_promiseOf_162, dX5_promiseOf_165⟩⟩ (by trivial) rfl rfl (Nat.le_of_ble_eq_true rfl) (Nat.le_of_ble_eq_true rfl)
  · exact absurd c8 (by rw [h5, if_pos (by omega)]; decide)
set_option maxHeartbeats 800000 in
set_option maxRecDepth 100000 in
theorem c_X5_debt_xB (l : Launch) (D : va_G) (cA : Nat → ClassId) (q v : Nat) (b tb r m o d : Nat → Nat) (c : Int) (S : Int → Int) (a e : Int) (hfl : l.stackTraces = false) (hI : Inv S) (ha : -2147483648 ≤ a ∧ a < 2147483648) (he : -2147483648 ≤ e ∧ e < 2147483648) (hn : ¬ ((0 ≤ a ∧ a < S 0) ∧ 0 ≤ e ∧ e < S 0)) : MX (U := Unit) l yX5_debt cX5_debt 3 (some .int) (rmN 26 1 6) D cA [.ref (q), .int (iI a), .int (iI e)] [prO q v b tb r m o c, bk cA b S] eB (fun _ => True) (fun _ => [prO q v b tb r m o c, bk cA b S]) := by
  refine m_startX hfl pn_X5 rfl (by decide) (List.forall_mem_cons.mpr ⟨rfl, List.forall_mem_cons.mpr ⟨rfl, List.forall_mem_cons.mpr ⟨rfl, fun _ h => absurd h List.not_mem_nil⟩⟩⟩) (Nat.le_of_ble_eq_true rfl) ?_
  intro K C e1 e2 e3 hin hR
  subst e1 e2 e3
  have hN := hI.2.1
  have hQ := hI.1
  show J K 0 0 [prO q v b tb r m o c, bk (kC K) b S] [some (.ref (q)), some (.int (iI a)), some (.int (iI e))] 0 []
  refine j_aload_n C dX5_debt_0 rfl ?_
  refine j_get C 0 0 0 rfl rfl rfl wU_X5 (by decide) wF_X5_12 rfl dX5_debt_1 ?_
  refine j_iload_n C dX5_debt_4 rfl ?_
  refine j_perm (pm_2_1 _ _) ?_
  refine j_callVi C (As := [.int (iI _)]) (c_X0_hasParty _ _ _ _ _ _ (by first | assumption | omega) (by first | assumption | omega)) 1 nf_X0_hasParty (jb := 0) rfl rfl wL_X5_62 wI_X0_hasParty wSe_X0_X0_hasParty wIn_X0 wC_X0_hasParty rfl rfl (by decide) dX5_debt_5 (Nat.le_of_ble_eq_true rfl) ⟨Nat.le_of_ble_eq_true rfl, Nat.le_of_ble_eq_true rfl⟩ (fun x5 u5 h5 => ?_)
  refine j_perm (pr_2_1 _ _) ?_
  refine j_if_eq (tgt := 22) C dX5_debt_8 (by decide) (by omega) (by omega) (fun c8 => ?_) (fun c8 => ?_)
  · exact hR 68 66 70 _ () exW_B (List.mem_of_getElem? (i := 4) rfl) ⟨dX5_debt_22, dX5_debt_25, Or.inl ⟨dX5_debt_26, dX5_debt_28, dX5_debt_31⟩⟩ (by trivial) rfl rfl (Nat.le_of_ble_eq_true rfl) (Nat.le_of_ble_eq_true rfl)
  · refine j_aload_n C dX5_debt_11 rfl ?_
    refine j_get C 0 0 0 rfl rfl rfl wU_X5 (by decide) wF_X5_12 rfl dX5_debt_12 ?_
    refine j_iload_n C dX5_debt_15 rfl ?_
    refine j_perm (pm_2_1 _ _) ?_
    refine j_callVi C (As := [.int (iI _)]) (c_X0_hasParty _ _ _ _ _ _ (by first | assumption | omega) (by first | assumption | omega)) 1 nf_X0_hasParty (jb := 0) rfl rfl wL_X5_62 wI_X0_hasParty wSe_X0_X0_hasParty wIn_X0 wC_X0_hasParty rfl rfl (by decide) dX5_debt_16 (Nat.le_of_ble_eq_true rfl) ⟨Nat.le_of_ble_eq_true rfl, Nat.le_of_ble_eq_true rfl⟩ (fun x16 u16 h16 => ?_)
    refine j_perm (pr_2_1 _ _) ?_
    refine j_if_ne (tgt := 32) C dX5_debt_19 (by decide) (by omega) (by omega) (fun c19 => ?_) (fun c19 => ?_)
    · exfalso; rw [h16] at c19; rw [h5] at c8; split at c8 <;> split at c19 <;> omega
    · exact hR 68 66 70 _ () exW_B (List.mem_of_getElem? (i := 4) rfl) ⟨dX5_debt_22, dX5_debt_25, Or.inl ⟨dX5_debt_26, dX5_debt_28, dX5_debt_31⟩⟩ (by trivial) rfl rfl (Nat.le_of_ble_eq_true rfl) (Nat.le_of_ble_eq_true rfl)
set_option maxHeartbeats 800000 in
set_option maxRecDepth 100000 in
theorem c_X5_net_xB (l : Launch) (D : va_G) (cA : Nat → ClassId) (q v : Nat) (b tb r m o d : Nat → Nat) (c : Int) (S : Int → Int) (a : Int) (hfl : l.stackTraces = false) (hI : Inv S) (ha : -2147483648 ≤ a ∧ a < 2147483648) (hn : ¬ (0 ≤ a ∧ a < S 0)) : MX (U := Unit) l yX5_net cX5_net 2 (some .int) (rmN 26 1 6) D cA [.ref (q), .int (iI a)] [prO q v b tb r m o c, bk cA b S] eB (fun _ => True) (fun _ => [prO q v b tb r m o c, bk cA b S]) := by
  refine m_startX hfl pn_X5 rfl (by decide) (List.forall_mem_cons.mpr ⟨rfl, List.forall_mem_cons.mpr ⟨rfl, fun _ h => absurd h List.not_mem_nil⟩⟩) (Nat.le_of_ble_eq_true rfl) ?_
  intro K C e1 e2 e3 hin hR
  subst e1 e2 e3
  have hN := hI.2.1
  have hQ := hI.1
  show J K 0 0 [prO q v b tb r m o c, bk (kC K) b S] [some (.ref (q)), some (.int (iI a))] 0 []
  refine j_aload_n C dX5_net_0 rfl ?_
  refine j_get C 0 0 0 rfl rfl rfl wU_X5 (by decide) wF_X5_12 rfl dX5_net_1 ?_
  refine j_iload_n C dX5_net_4 rfl ?_
  refine j_perm (pm_2_1 _ _) ?_
  refine j_callVi C (As := [.int (iI _)]) (c_X0_hasParty _ _ _ _ _ _ (by first | assumption | omega) (by first | assumption | omega)) 1 nf_X0_hasParty (jb := 0) rfl rfl wL_X5_62 wI_X0_hasParty wSe_X0_X0_hasParty wIn_X0 wC_X0_hasParty rfl rfl (by decide) dX5_net_5 (Nat.le_of_ble_eq_true rfl) ⟨Nat.le_of_ble_eq_true rfl, Nat.le_of_ble_eq_true rfl⟩ (fun x5 u5 h5 => ?_)
  refine j_perm (pr_2_1 _ _) ?_
  refine j_if_ne (tgt := 21) C dX5_net_8 (by decide) (by omega) (by omega) (fun c8 => ?_) (fun c8 => ?_)
  · exfalso; rw [h5, if_neg hn] at c8; exact c8 rfl
  · exact hR 68 66 70 _ () exW_B (List.mem_of_getElem? (i := 4) rfl) ⟨dX5_net_11, dX5_net_14, Or.inl ⟨dX5_net_15, dX5_net_17, dX5_net_20⟩⟩ (by trivial) rfl rfl (Nat.le_of_ble_eq_true rfl) (Nat.le_of_ble_eq_true rfl)
set_option maxHeartbeats 800000 in
set_option maxRecDepth 100000 in
theorem c_X5_value_xA (l : Launch) (D : va_G) (cA : Nat → ClassId) (q v : Nat) (b tb r m o d : Nat → Nat) (c : Int) (w : Int) (hfl : l.stackTraces = false) (hw : -2147483648 ≤ w ∧ w < 2147483648) (hn : ¬ (0 ≤ w ∧ w ≤ 10)) : MX (U := Unit) l yX5_value cX5_value 2 (some .int) (rmN 26 1 6) D cA [.ref (q), .int (iI w)] [prO q v b tb r m o c] eA (fun _ => True) (fun _ => [prO q v b tb r m o c]) := by
  refine m_startX hfl pn_X5 rfl (by decide) (List.forall_mem_cons.mpr ⟨rfl, List.forall_mem_cons.mpr ⟨rfl, fun _ h => absurd h List.not_mem_nil⟩⟩) (Nat.le_of_ble_eq_true rfl) ?_
  intro K C e1 e2 e3 hin hR
  subst e1 e2 e3
  show J K 0 0 [prO q v b tb r m o c] [some (.ref (q)), some (.int (iI w))] 0 []
  refine j_iload_n C dX5_value_0 rfl ?_
  refine j_tabOut (tgt := 145) C dX5_value_1 (by omega) (by omega) (by omega) (by decide) ?_
  exact hR 204 44 48 _ () exW_A (List.mem_of_getElem? (i := 0) rfl) ⟨dX5_value_145, dX5_value_148, Or.inl ⟨dX5_value_149, dX5_value_151, dX5_value_154⟩⟩ (by trivial) rfl rfl (Nat.le_of_ble_eq_true rfl) (Nat.le_of_ble_eq_true rfl)
set_option maxHeartbeats 800000 in
set_option maxRecDepth 100000 in
theorem c_X5_undo_xC (l : Launch) (D : va_G) (cA : Nat → ClassId) (q v : Nat) (b tb r m o d : Nat → Nat) (c : Int) (hfl : l.stackTraces = false) (hn : c = 0) : MX (U := Unit) l yX5_undo cX5_undo 2 (some .int) (rmN 26 1 6) D cA [.ref (q)] [prO q v b tb r m o c] eC (fun _ => True) (fun _ => [prO q v b tb r m o c]) := by
  refine m_startX hfl pn_X5 rfl (by decide) (List.forall_mem_cons.mpr ⟨rfl, fun _ h => absurd h List.not_mem_nil⟩) (Nat.le_of_ble_eq_true rfl) ?_
  intro K C e1 e2 e3 hin hR
  subst e1 e2 e3
  show J K 0 0 [prO q v b tb r m o c] [some (.ref (q)), none] 0 []
  refine j_aload_n C dX5_undo_0 rfl ?_
  refine j_get C 0 0 6 rfl rfl rfl wU_X5 (by decide) wF_X5_262 rfl dX5_undo_1 ?_
  refine j_if_le (tgt := 29) C dX5_undo_4 (by decide) (by omega) (by omega) (fun c4 => ?_) (fun c4 => ?_)
  · refine j_null C dX5_undo_29 ?_
    refine j_astnN_1 C dX5_undo_30 rfl ?_
    refine j_aload_nN C dX5_undo_31 rfl ?_
    refine j_ifnnN C dX5_undo_32 ?_
    exact hR 265 81 85 _ () exW_C (List.mem_of_getElem? (i := 16) rfl) ⟨dX5_undo_35, dX5_undo_38, Or.inr ⟨dX5_undo_39, dX5_undo_42, dX5_undo_45⟩⟩ (by trivial) rfl rfl (Nat.le_of_ble_eq_true rfl) (Nat.le_of_ble_eq_true rfl)
  · exfalso; omega
