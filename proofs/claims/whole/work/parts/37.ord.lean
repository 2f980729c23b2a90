/-! the orders: what is read -/
theorem ori_ini {q q1 : Nat} : ([(q, .inr (2, [.ref q1, .int 0, .int 0, .int 0, .int 0, .int 0, .int 0, .int 0, .int 0, .int 0]))] : va_W) = orO (ad9 q q1 0 0 0 0 0 0 0) (fun _ => 0) := by
  unfold orO
  rw [← iI_zero]
  rfl
theorem pm_2_1_0 (B0 B1 : va_W) : [B0, B1].Perm ([B1, B0] ++ []) := List.Perm.trans (List.perm_middle (l₁ := [B0]) (a := B1) (l₂ := [])) (List.Perm.cons _ (List.Perm.refl _))
theorem pr_2_1_0 (B0 B1 : va_W) : ([B1, B0] ++ []).Perm [B0, B1] := (pm_2_1_0 B0 B1).symm
set_option maxHeartbeats 4000000 in
set_option maxRecDepth 100000 in
theorem c_X2_init (l : Launch) (D : va_G) (cA : Nat → ClassId) (q : Nat)  : MV (U := Nat → Nat) l yX2_init cX2_init 1 none (rmN 1 1 100) D cA [.ref (q)] [[(q, .inr (2, [.null, .int 0, .int 0, .int 0, .int 0, .int 0, .int 0, .int 0, .int 0, .int 0]))]] (fun d => d 0 = q) (fun o => [orO o (fun _ => 0), [(o 1, aJ (cA 0) 100 (fun _ => 0))]]) := by
  refine m_startV pn_X2 rfl (List.forall_mem_cons.mpr ⟨rfl, fun _ h => absurd h List.not_mem_nil⟩) (Nat.le_of_ble_eq_true rfl) ?_
  intro K C e1 e2 e3 hin hR
  subst e1 e2 e3
  show J K 0 0 [[(q, .inr (2, [.null, .int 0, .int 0, .int 0, .int 0, .int 0, .int 0, .int 0, .int 0, .int 0]))]] [some (.ref (q))] 0 []
  refine j_aload_n C dX2_init_0 rfl ?_
  refine j_objInit C rfl wL_X2_3 dX2_init_1 ⟨by decide, Nat.le_of_ble_eq_true rfl⟩ ?_
  refine j_aload_n C dX2_init_4 rfl ?_
  refine j_bipush C dX2_init_5 (by decide) ?_
  refine j_newi C 100 (by decide) (by decide) wA__int (by decide) dX2_init_7 (fun q1 => ?_)
  refine j_putF_p1 C hin 0 0 (B' := [(q, .inr (2, [.ref q1, .int 0, .int 0, .int 0, .int 0, .int 0, .int 0, .int 0, .int 0, .int 0]))]) rfl rfl rfl wU_X2 tyX2_ok nmX2 (by decide) wF_X2_9 rfl rfl rfl rfl (Nat.le_of_ble_eq_true rfl) dX2_init_9 ?_
  refine j_perm (pm_2_1_0 _ _) ?_
  rw [ori_ini]
  exact hR (ad9 q q1 0 0 0 0 0 0 0) dX2_init_12 (by rfl) rfl (Nat.le_of_ble_eq_true rfl) (Nat.le_of_ble_eq_true rfl)
set_option maxHeartbeats 4000000 in
set_option maxRecDepth 100000 in
theorem c_X2_isFull (l : Launch) (D : va_G) (cA : Nat → ClassId) (o : Nat → Nat) (O : Int → Int) (h : 0 ≤ O 0 ∧ O 0 ≤ 100) : MI (U := Unit) l yX2_isFull cX2_isFull 1 (some .boolean) (rmN 1 0 0) D cA [.ref (o 0)] [orO o O] (fun x _ => x = if 100 ≤ O 0 then 1 else 0) (fun _ => [orO o O]) := by
  refine m_startZ pn_X2 rfl (List.forall_mem_cons.mpr ⟨rfl, fun _ h => absurd h List.not_mem_nil⟩) (Nat.le_of_ble_eq_true rfl) ?_
  intro K C e1 e2 e3 hin hR
  subst e1 e2 e3
  show J K 0 0 [orO o O] [some (.ref (o 0))] 0 []
  refine j_aload_n C dX2_isFull_0 rfl ?_
  refine j_get C 0 0 1 rfl rfl rfl wU_X2 (by decide) wF_X2_15 rfl dX2_isFull_1 ?_
  refine j_bipush C dX2_isFull_4 (by decide) ?_
  refine j_icmp_lt (tgt := 13) C dX2_isFull_6 (by decide) (by omega) (by omega) (by omega) (by omega) (fun c6 => ?_) (fun c6 => ?_)
  · refine j_iconst C dX2_isFull_13 ?_
    exact hR () dX2_isFull_14 (by omega) (by first | trivial | omega | rfl) rfl (Nat.le_of_ble_eq_true rfl) (Nat.le_of_ble_eq_true rfl)
  · refine j_iconst C dX2_isFull_9 ?_
    refine j_goto (tgt := 14) C dX2_isFull_10 (by decide) ?_
    exact hR () dX2_isFull_14 (by omega) (by first | trivial | omega | rfl) rfl (Nat.le_of_ble_eq_true rfl) (Nat.le_of_ble_eq_true rfl)
set_option maxHeartbeats 4000000 in
set_option maxRecDepth 100000 in
theorem c_X2_add (l : Launch) (D : va_G) (cA : Nat → ClassId) (o : Nat → Nat) (O t : Int → Int) (v : Int) (h : 0 ≤ O 0 ∧ O 0 < 100) : MV (U := Unit) l yX2_add cX2_add 2 none (rmN 1 0 0) D cA [.ref (o 0), .int (iI v)] [orO o O, [(o 1, aJ (cA 0) 100 t)]] (fun _ => True) (fun _ => [orO o (st O 0 (O 0 + 1)), [(o 1, aJ (cA 0) 100 (st t (O 0) v))]]) := by
  refine m_startV pn_X2 rfl (List.forall_mem_cons.mpr ⟨rfl, List.forall_mem_cons.mpr ⟨rfl, fun _ h => absurd h List.not_mem_nil⟩⟩) (Nat.le_of_ble_eq_true rfl) ?_
  intro K C e1 e2 e3 hin hR
  subst e1 e2 e3
  show J K 0 0 [orO o O, [(o 1, aJ ((kC K) 0) 100 t)]] [some (.ref (o 0)), some (.int (iI v))] 0 []
  refine j_aload_n C dX2_add_0 rfl ?_
  refine j_get C 0 0 1 rfl rfl rfl wU_X2 (by decide) wF_X2_15 rfl dX2_add_1 ?_
  refine j_if_lt (tgt := 36) C dX2_add_4 (by decide) (by omega) (by omega) (fun c4 => ?_) (fun c4 => ?_)
  · exfalso; omega
  · refine j_aload_n C dX2_add_7 rfl ?_
    refine j_get C 0 0 1 rfl rfl rfl wU_X2 (by decide) wF_X2_15 rfl dX2_add_8 ?_
    refine j_bipush C dX2_add_11 (by decide) ?_
    refine j_icmp_ge (tgt := 36) C dX2_add_13 (by decide) (by omega) (by omega) (by omega) (by omega) (fun c13 => ?_) (fun c13 => ?_)
    · exfalso; omega
    · refine j_aload_n C dX2_add_16 rfl ?_
      refine j_get C 0 0 0 rfl rfl rfl wU_X2 (by decide) wF_X2_9 rfl dX2_add_17 ?_
      refine j_aload_n C dX2_add_20 rfl ?_
      refine j_get C 0 0 1 rfl rfl rfl wU_X2 (by decide) wF_X2_15 rfl dX2_add_21 ?_
      refine j_iload_n C dX2_add_24 rfl ?_
      refine j_iast_p1 C 0 rfl ar1_ast dX2_add_25 (by decide) (by omega) (by omega) ?_
      refine j_aload_n C dX2_add_26 rfl ?_
      refine j_dup C dX2_add_27 rfl ?_
      refine j_get C 0 0 1 rfl rfl rfl wU_X2 (by decide) wF_X2_15 rfl dX2_add_28 ?_
      refine j_iconst C dX2_add_31 ?_
      refine j_iadd C dX2_add_32 ?_
      refine j_put_p0 C 0 1 rfl orO_put0 rfl wU_X2 tyX2_ok nmX2 (by decide) wF_X2_15 rfl rfl rfl (Nat.le_of_ble_eq_true rfl) dX2_add_33 ?_
      exact hR () dX2_add_36 (by first | trivial | omega | rfl) rfl (Nat.le_of_ble_eq_true rfl) (Nat.le_of_ble_eq_true rfl)
set_option maxHeartbeats 4000000 in
set_option maxRecDepth 100000 in
theorem c_X2_clear (l : Launch) (D : va_G) (cA : Nat → ClassId) (o : Nat → Nat) (O : Int → Int)  : MV (U := Unit) l yX2_clear cX2_clear 1 none (rmN 1 0 0) D cA [.ref (o 0)] [orO o O] (fun _ => True) (fun _ => [orO o (st O 0 0)]) := by
  refine m_startV pn_X2 rfl (List.forall_mem_cons.mpr ⟨rfl, fun _ h => absurd h List.not_mem_nil⟩) (Nat.le_of_ble_eq_true rfl) ?_
  intro K C e1 e2 e3 hin hR
  subst e1 e2 e3
  show J K 0 0 [orO o O] [some (.ref (o 0))] 0 []
  refine j_aload_n C dX2_clear_0 rfl ?_
  refine j_iconst C dX2_clear_1 ?_
  refine j_put_p0 C 0 1 rfl orO_put0 rfl wU_X2 tyX2_ok nmX2 (by decide) wF_X2_15 rfl rfl rfl (Nat.le_of_ble_eq_true rfl) dX2_clear_2 ?_
  exact hR () dX2_clear_5 (by first | trivial | omega | rfl) rfl (Nat.le_of_ble_eq_true rfl) (Nat.le_of_ble_eq_true rfl)
set_option maxHeartbeats 4000000 in
set_option maxRecDepth 100000 in
theorem c_X2_rewind (l : Launch) (D : va_G) (cA : Nat → ClassId) (o : Nat → Nat) (O : Int → Int)  : MV (U := Unit) l yX2_rewind cX2_rewind 1 none (rmN 1 0 0) D cA [.ref (o 0)] [orO o O] (fun _ => True) (fun _ => [orO o (st (st O 1 0) 2 (-1))]) := by
  refine m_startV pn_X2 rfl (List.forall_mem_cons.mpr ⟨rfl, fun _ h => absurd h List.not_mem_nil⟩) (Nat.le_of_ble_eq_true rfl) ?_
  intro K C e1 e2 e3 hin hR
  subst e1 e2 e3
  show J K 0 0 [orO o O] [some (.ref (o 0))] 0 []
  refine j_aload_n C dX2_rewind_0 rfl ?_
  refine j_iconst C dX2_rewind_1 ?_
  refine j_put_p0 C 0 2 rfl orO_put1 rfl wU_X2 tyX2_ok nmX2 (by decide) wF_X2_19 rfl rfl rfl (Nat.le_of_ble_eq_true rfl) dX2_rewind_2 ?_
  refine j_aload_n C dX2_rewind_5 rfl ?_
  refine j_iconst C dX2_rewind_6 ?_
  refine j_put_p0 C 0 3 rfl orO_put2 rfl wU_X2 tyX2_ok nmX2 (by decide) wF_X2_22 rfl rfl rfl (Nat.le_of_ble_eq_true rfl) dX2_rewind_7 ?_
  exact hR () dX2_rewind_10 (by first | trivial | omega | rfl) rfl (Nat.le_of_ble_eq_true rfl) (Nat.le_of_ble_eq_true rfl)
set_option maxHeartbeats 4000000 in
set_option maxRecDepth 100000 in
theorem c_X2_fail (l : Launch) (D : va_G) (cA : Nat → ClassId) (o : Nat → Nat) (O : Int → Int) (p : Int)  : MI (U := Unit) l yX2_fail cX2_fail 2 (some .boolean) (rmN 1 0 0) D cA [.ref (o 0), .int (iI p)] [orO o O] (fun x _ => x = 0) (fun _ => [orO o (st O 2 p)]) := by
  refine m_startZ pn_X2 rfl (List.forall_mem_cons.mpr ⟨rfl, List.forall_mem_cons.mpr ⟨rfl, fun _ h => absurd h List.not_mem_nil⟩⟩) (Nat.le_of_ble_eq_true rfl) ?_
  intro K C e1 e2 e3 hin hR
  subst e1 e2 e3
  show J K 0 0 [orO o O] [some (.ref (o 0)), some (.int (iI p))] 0 []
  refine j_aload_n C dX2_fail_0 rfl ?_
  refine j_iload_n C dX2_fail_1 rfl ?_
  refine j_put_p0 C 0 3 rfl orO_put2 rfl wU_X2 tyX2_ok nmX2 (by decide) wF_X2_22 rfl rfl rfl (Nat.le_of_ble_eq_true rfl) dX2_fail_2 ?_
  refine j_iconst C dX2_fail_5 ?_
  exact hR () dX2_fail_6 (by omega) (by first | trivial | omega | rfl) rfl (Nat.le_of_ble_eq_true rfl) (Nat.le_of_ble_eq_true rfl)
set_option maxHeartbeats 4000000 in
set_option maxRecDepth 100000 in
theorem c_X2_isDigit (l : Launch) (D : va_G) (cA : Nat → ClassId) (v : Int) (hv : -2147483648 ≤ v ∧ v < 2147483648) : MI (U := Unit) l yX2_isDigit cX2_isDigit 1 (some .boolean) (rmN 1 0 0) D cA [.int (iI v)] [] (fun x _ => x = if 48 ≤ v ∧ v ≤ 57 then 1 else 0) (fun _ => []) := by
  refine m_startZ pn_X2 rfl (List.forall_mem_cons.mpr ⟨rfl, fun _ h => absurd h List.not_mem_nil⟩) (Nat.le_of_ble_eq_true rfl) ?_
  intro K C e1 e2 e3 hin hR
  subst e1 e2 e3
  show J K 0 0 [] [some (.int (iI v))] 0 []
  refine j_iload_n C dX2_isDigit_0 rfl ?_
  refine j_bipush C dX2_isDigit_1 (by decide) ?_
  refine j_icmp_lt (tgt := 16) C dX2_isDigit_3 (by decide) (by omega) (by omega) (by omega) (by omega) (fun c3 => ?_) (fun c3 => ?_)
  · refine j_iconst C dX2_isDigit_16 ?_
    exact hR () dX2_isDigit_17 (by omega) (by first | trivial | omega | rfl) rfl (Nat.le_of_ble_eq_true rfl) (Nat.le_of_ble_eq_true rfl)
  · refine j_iload_n C dX2_isDigit_6 rfl ?_
    refine j_bipush C dX2_isDigit_7 (by decide) ?_
    refine j_icmp_gt (tgt := 16) C dX2_isDigit_9 (by decide) (by omega) (by omega) (by omega) (by omega) (fun c9 => ?_) (fun c9 => ?_)
    · refine j_iconst C dX2_isDigit_16 ?_
      exact hR () dX2_isDigit_17 (by omega) (by first | trivial | omega | rfl) rfl (Nat.le_of_ble_eq_true rfl) (Nat.le_of_ble_eq_true rfl)
    · refine j_iconst C dX2_isDigit_12 ?_
      refine j_goto (tgt := 17) C dX2_isDigit_13 (by decide) ?_
      exact hR () dX2_isDigit_17 (by omega) (by first | trivial | omega | rfl) rfl (Nat.le_of_ble_eq_true rfl) (Nat.le_of_ble_eq_true rfl)
set_option maxHeartbeats 4000000 in
set_option maxRecDepth 100000 in
theorem c_X2_peek (l : Launch) (D : va_G) (cA : Nat → ClassId) (o : Nat → Nat) (O t : Int → Int) (hb : OB t O) : MI (U := Unit) l yX2_peek cX2_peek 1 (some .int) (rmN 1 0 0) D cA [.ref (o 0)] [orO o O, [(o 1, aJ (cA 0) 100 t)]] (fun x _ => x = pk t (O 0) (O 1)) (fun _ => [orO o O, [(o 1, aJ (cA 0) 100 t)]]) := by
  refine m_startI pn_X2 rfl (List.forall_mem_cons.mpr ⟨rfl, fun _ h => absurd h List.not_mem_nil⟩) (Nat.le_of_ble_eq_true rfl) ?_
  intro K C e1 e2 e3 hin hR
  subst e1 e2 e3
  have hb0 := hb.1.1
  have hb1 := hb.2
  show J K 0 0 [orO o O, [(o 1, aJ ((kC K) 0) 100 t)]] [some (.ref (o 0))] 0 []
  refine j_aload_n C dX2_peek_0 rfl ?_
  refine j_get C 0 0 2 rfl rfl rfl wU_X2 (by decide) wF_X2_19 rfl dX2_peek_1 ?_
  refine j_if_lt (tgt := 39) C dX2_peek_4 (by decide) (by omega) (by omega) (fun c4 => ?_) (fun c4 => ?_)
  · refine j_iconst C dX2_peek_39 ?_
    exact hR () dX2_peek_40 (by first | (show _ = if _ then _ else _; first | (rw [if_pos (by omega)]; done) | (rw [if_neg (by omega)]; done))) rfl (Nat.le_of_ble_eq_true rfl) (Nat.le_of_ble_eq_true rfl)
  · refine j_aload_n C dX2_peek_7 rfl ?_
    refine j_get C 0 0 2 rfl rfl rfl wU_X2 (by decide) wF_X2_19 rfl dX2_peek_8 ?_
    refine j_aload_n C dX2_peek_11 rfl ?_
    refine j_get C 0 0 1 rfl rfl rfl wU_X2 (by decide) wF_X2_15 rfl dX2_peek_12 ?_
    refine j_icmp_ge (tgt := 39) C dX2_peek_15 (by decide) (by omega) (by omega) (by omega) (by omega) (fun c15 => ?_) (fun c15 => ?_)
    · refine j_iconst C dX2_peek_39 ?_
      exact hR () dX2_peek_40 (by first | (show _ = if _ then _ else _; first | (rw [if_pos (by omega)]; done) | (rw [if_neg (by omega)]; done))) rfl (Nat.le_of_ble_eq_true rfl) (Nat.le_of_ble_eq_true rfl)
    · refine j_aload_n C dX2_peek_18 rfl ?_
      refine j_get C 0 0 2 rfl rfl rfl wU_X2 (by decide) wF_X2_19 rfl dX2_peek_19 ?_
      refine j_bipush C dX2_peek_22 (by decide) ?_
      refine j_icmp_ge (tgt := 39) C dX2_peek_24 (by decide) (by omega) (by omega) (by omega) (by omega) (fun c24 => ?_) (fun c24 => ?_)
      · refine j_iconst C dX2_peek_39 ?_
        exact hR () dX2_peek_40 (by first | (show _ = if _ then _ else _; first | (rw [if_pos (by omega)]; done) | (rw [if_neg (by omega)]; done))) rfl (Nat.le_of_ble_eq_true rfl) (Nat.le_of_ble_eq_true rfl)
      · refine j_aload_n C dX2_peek_27 rfl ?_
        refine j_get C 0 0 0 rfl rfl rfl wU_X2 (by decide) wF_X2_9 rfl dX2_peek_28 ?_
        refine j_aload_n C dX2_peek_31 rfl ?_
        refine j_get C 0 0 2 rfl rfl rfl wU_X2 (by decide) wF_X2_19 rfl dX2_peek_32 ?_
        refine j_iald C 1 0 rfl rfl dX2_peek_35 (by decide) (by omega) (by omega) ?_
        refine j_goto (tgt := 40) C dX2_peek_36 (by decide) ?_
        exact hR () dX2_peek_40 (by first | (show _ = if _ then _ else _; first | (rw [if_pos (by omega)]; done) | (rw [if_neg (by omega)]; done))) rfl (Nat.le_of_ble_eq_true rfl) (Nat.le_of_ble_eq_true rfl)
set_option maxHeartbeats 4000000 in
set_option maxRecDepth 100000 in
theorem c_X2_readSign (l : Launch) (D : va_G) (cA : Nat → ClassId) (o : Nat → Nat) (O t : Int → Int) (w : Int) (hb : OB t O) (hw : -2147483648 ≤ w ∧ w < 2147483648) : MI (U := Int → Int) l yX2_readSign cX2_readSign 2 (some .boolean) (rmN 2 0 0) D cA [.ref (o 0), .int (iI w)] [orO o O, [(o 1, aJ (cA 0) 100 t)]] (fun x u => SG t O w x u) (fun u => [orO o u, [(o 1, aJ (cA 0) 100 t)]]) := by
  refine m_startZ pn_X2 rfl (List.forall_mem_cons.mpr ⟨rfl, List.forall_mem_cons.mpr ⟨rfl, fun _ h => absurd h List.not_mem_nil⟩⟩) (Nat.le_of_ble_eq_true rfl) ?_
  intro K C e1 e2 e3 hin hR
  subst e1 e2 e3
  have hb0 := hb.1.1
  have hb1 := hb.2
  have hpb := pk_bd hb.1 (O 1)
  show J K 0 0 [orO o O, [(o 1, aJ ((kC K) 0) 100 t)]] [some (.ref (o 0)), some (.int (iI w))] 0 []
  refine j_aload_n C dX2_readSign_0 rfl ?_
  refine j_perm (pm_2_0_1 _ _) ?_
  refine j_callVi C (As := []) (c_X2_peek _ _ _ _ _ _ (by first | assumption | omega)) 0 nf_X2_peek (jb := 0) rfl rfl wL_X2_32 wI_X2_peek wSe_X2_X2_peek wIn_X2 wC_X2_peek rfl rfl (by decide) dX2_readSign_1 (Nat.le_of_ble_eq_true rfl) ⟨Nat.le_of_ble_eq_true rfl, Nat.le_of_ble_eq_true rfl⟩ (fun x1 u1 h1 => ?_)
  refine j_perm (pr_2_0_1 _ _) ?_
  refine j_iload_n C dX2_readSign_4 rfl ?_
  refine j_icmp_eq (tgt := 17) C dX2_readSign_5 (by decide) (by omega) (by omega) (by omega) (by omega) (fun c5 => ?_) (fun c5 => ?_)
  · refine j_aload_n C dX2_readSign_17 rfl ?_
    refine j_dup C dX2_readSign_18 rfl ?_
    refine j_get C 0 0 2 rfl rfl rfl wU_X2 (by decide) wF_X2_19 rfl dX2_readSign_19 ?_
    refine j_iconst C dX2_readSign_22 ?_
    refine j_iadd C dX2_readSign_23 ?_
    refine j_put_p0 C 0 2 rfl orO_put1 rfl wU_X2 tyX2_ok nmX2 (by decide) wF_X2_19 rfl rfl rfl (Nat.le_of_ble_eq_true rfl) dX2_readSign_24 ?_
    refine j_iconst C dX2_readSign_27 ?_
    exact hR (st O 1 (O 1 + 1)) dX2_readSign_28 (by omega) (by exact ⟨KP_st (KP_r O) (by omega), Or.inl ⟨by omega, rfl, st_s _ _ _, st_n (by decide)⟩⟩) rfl (Nat.le_of_ble_eq_true rfl) (Nat.le_of_ble_eq_true rfl)
  · refine j_aload_n C dX2_readSign_8 rfl ?_
    refine j_aload_n C dX2_readSign_9 rfl ?_
    refine j_get C 0 0 2 rfl rfl rfl wU_X2 (by decide) wF_X2_19 rfl dX2_readSign_10 ?_
    refine j_perm (pm_2_0 _ _) ?_
    refine j_callVi C (As := [.int (iI _)]) (c_X2_fail _ _ _ _ _ _ ) 1 nf_X2_fail (jb := 0) rfl rfl wL_X2_53 wI_X2_fail wSe_X2_X2_fail wIn_X2 wC_X2_fail rfl rfl (by decide) dX2_readSign_13 (Nat.le_of_ble_eq_true rfl) ⟨Nat.le_of_ble_eq_true rfl, Nat.le_of_ble_eq_true rfl⟩ (fun x13 u13 h13 => ?_)
    refine j_perm (pr_2_0 _ _) ?_
    subst h13
    exact hR (st O 2 (O 1)) dX2_readSign_16 (by omega) (by exact ⟨KP_st (KP_r O) (by omega), Or.inr ⟨by omega, rfl, st_n (by decide), st_s _ _ _⟩⟩) rfl (Nat.le_of_ble_eq_true rfl) (Nat.le_of_ble_eq_true rfl)
set_option maxHeartbeats 4000000 in
set_option maxRecDepth 100000 in
theorem c_X2_readDigit (l : Launch) (D : va_G) (cA : Nat → ClassId) (o : Nat → Nat) (O t : Int → Int) (lo hi : Int) (hb : OB t O) (hlo : 0 ≤ lo ∧ lo ≤ 9) (hhi : 0 ≤ hi ∧ hi ≤ 9) : MI (U := Int → Int) l yX2_readDigit cX2_readDigit 4 (some .int) (rmN 2 0 0) D cA [.ref (o 0), .int (iI lo), .int (iI hi)] [orO o O, [(o 1, aJ (cA 0) 100 t)]] (fun x u => DG t O lo hi x u) (fun u => [orO o u, [(o 1, aJ (cA 0) 100 t)]]) := by
  refine m_startI pn_X2 rfl (List.forall_mem_cons.mpr ⟨rfl, List.forall_mem_cons.mpr ⟨rfl, List.forall_mem_cons.mpr ⟨rfl, fun _ h => absurd h List.not_mem_nil⟩⟩⟩) (Nat.le_of_ble_eq_true rfl) ?_
  intro K C e1 e2 e3 hin hR
  subst e1 e2 e3
  have hb0 := hb.1.1
  have hb1 := hb.2
  have hpb := pk_bd hb.1 (O 1)
  show J K 0 0 [orO o O, [(o 1, aJ ((kC K) 0) 100 t)]] [some (.ref (o 0)), some (.int (iI lo)), some (.int (iI hi)), none] 0 []
  refine j_aload_n C dX2_readDigit_0 rfl ?_
  refine j_perm (pm_2_0_1 _ _) ?_
  refine j_callVi C (As := []) (c_X2_peek _ _ _ _ _ _ (by first | assumption | omega)) 0 nf_X2_peek (jb := 0) rfl rfl wL_X2_32 wI_X2_peek wSe_X2_X2_peek wIn_X2 wC_X2_peek rfl rfl (by decide) dX2_readDigit_1 (Nat.le_of_ble_eq_true rfl) ⟨Nat.le_of_ble_eq_true rfl, Nat.le_of_ble_eq_true rfl⟩ (fun x1 u1 h1 => ?_)
  refine j_perm (pr_2_0_1 _ _) ?_
  refine j_bipush C dX2_readDigit_4 (by decide) ?_
  refine j_isub C dX2_readDigit_6 ?_
  refine j_istn_3 C dX2_readDigit_7 rfl ?_
  refine j_iload_n C dX2_readDigit_8 rfl ?_
  refine j_iload_n C dX2_readDigit_9 rfl ?_
  refine j_icmp_lt (tgt := 18) C dX2_readDigit_10 (by decide) (by omega) (by omega) (by omega) (by omega) (fun c10 => ?_) (fun c10 => ?_)
  · refine j_aload_n C dX2_readDigit_18 rfl ?_
    refine j_aload_n C dX2_readDigit_19 rfl ?_
    refine j_get C 0 0 2 rfl rfl rfl wU_X2 (by decide) wF_X2_19 rfl dX2_readDigit_20 ?_
    refine j_perm (pm_2_0 _ _) ?_
    refine j_callVi C (As := [.int (iI _)]) (c_X2_fail _ _ _ _ _ _ ) 1 nf_X2_fail (jb := 0) rfl rfl wL_X2_53 wI_X2_fail wSe_X2_X2_fail wIn_X2 wC_X2_fail rfl rfl (by decide) dX2_readDigit_23 (Nat.le_of_ble_eq_true rfl) ⟨Nat.le_of_ble_eq_true rfl, Nat.le_of_ble_eq_true rfl⟩ (fun x23 u23 h23 => ?_)
    refine j_perm (pr_2_0 _ _) ?_
    refine j_pop C dX2_readDigit_26 rfl ?_
    refine j_iconst C dX2_readDigit_27 ?_
    exact hR (st O 2 (O 1)) dX2_readDigit_28 (by exact ⟨KP_st (KP_r O) (by omega), Or.inr ⟨by omega, rfl, st_n (by decide), st_s _ _ _⟩⟩) rfl (Nat.le_of_ble_eq_true rfl) (Nat.le_of_ble_eq_true rfl)
  · refine j_iload_n C dX2_readDigit_13 rfl ?_
    refine j_iload_n C dX2_readDigit_14 rfl ?_
    refine j_icmp_le (tgt := 29) C dX2_readDigit_15 (by decide) (by omega) (by omega) (by omega) (by omega) (fun c15 => ?_) (fun c15 => ?_)
    · refine j_aload_n C dX2_readDigit_29 rfl ?_
      refine j_dup C dX2_readDigit_30 rfl ?_
      refine j_get C 0 0 2 rfl rfl rfl wU_X2 (by decide) wF_X2_19 rfl dX2_readDigit_31 ?_
      refine j_iconst C dX2_readDigit_34 ?_
      refine j_iadd C dX2_readDigit_35 ?_
      refine j_put_p0 C 0 2 rfl orO_put1 rfl wU_X2 tyX2_ok nmX2 (by decide) wF_X2_19 rfl rfl rfl (Nat.le_of_ble_eq_true rfl) dX2_readDigit_36 ?_
      refine j_iload_n C dX2_readDigit_39 rfl ?_
      exact hR (st O 1 (O 1 + 1)) dX2_readDigit_40 (by exact ⟨KP_st (KP_r O) (by omega), Or.inl ⟨by omega, by omega, by omega, st_s _ _ _, st_n (by decide)⟩⟩) rfl (Nat.le_of_ble_eq_true rfl) (Nat.le_of_ble_eq_true rfl)
    · refine j_aload_n C dX2_readDigit_18 rfl ?_
      refine j_aload_n C dX2_readDigit_19 rfl ?_
      refine j_get C 0 0 2 rfl rfl rfl wU_X2 (by decide) wF_X2_19 rfl dX2_readDigit_20 ?_
      refine j_perm (pm_2_0 _ _) ?_
      refine j_callVi C (As := [.int (iI _)]) (c_X2_fail _ _ _ _ _ _ ) 1 nf_X2_fail (jb := 0) rfl rfl wL_X2_53 wI_X2_fail wSe_X2_X2_fail wIn_X2 wC_X2_fail rfl rfl (by decide) dX2_readDigit_23 (Nat.le_of_ble_eq_true rfl) ⟨Nat.le_of_ble_eq_true rfl, Nat.le_of_ble_eq_true rfl⟩ (fun x23 u23 h23 => ?_)
      refine j_perm (pr_2_0 _ _) ?_
      refine j_pop C dX2_readDigit_26 rfl ?_
      refine j_iconst C dX2_readDigit_27 ?_
      exact hR (st O 2 (O 1)) dX2_readDigit_28 (by exact ⟨KP_st (KP_r O) (by omega), Or.inr ⟨by omega, rfl, st_n (by decide), st_s _ _ _⟩⟩) rfl (Nat.le_of_ble_eq_true rfl) (Nat.le_of_ble_eq_true rfl)
set_option maxHeartbeats 4000000 in
set_option maxRecDepth 100000 in
theorem c_X2_readNumber (l : Launch) (D : va_G) (cA : Nat → ClassId) (o : Nat → Nat) (O t : Int → Int) (d : Int) (lo hi : Int) (hb : OB t O) (hd : 0 ≤ d ∧ d ≤ 4) (hlo : 0 ≤ lo ∧ lo ≤ 10000) (hhi : 0 ≤ hi ∧ hi ≤ 10000) : MI (U := Int → Int) l yX2_readNumber cX2_readNumber 7 (some .int) (rmN 2 0 0) D cA [.ref (o 0), .int (iI d), .int (iI lo), .int (iI hi)] [orO o O, [(o 1, aJ (cA 0) 100 t)]] (fun x u => NG t O d.toNat lo hi x u) (fun u => [orO o u, [(o 1, aJ (cA 0) 100 t)]]) := by
  refine m_startI pn_X2 rfl (List.forall_mem_cons.mpr ⟨rfl, List.forall_mem_cons.mpr ⟨rfl, List.forall_mem_cons.mpr ⟨rfl, List.forall_mem_cons.mpr ⟨rfl, fun _ h => absurd h List.not_mem_nil⟩⟩⟩⟩) (Nat.le_of_ble_eq_true rfl) ?_
  intro K C e1 e2 e3 hin hR
  subst e1 e2 e3
  have hb0 := hb.1.1
  have hb1 := hb.2
  show J K 0 0 [orO o O, [(o 1, aJ ((kC K) 0) 100 t)]] [some (.ref (o 0)), some (.int (iI d)), some (.int (iI lo)), some (.int (iI hi)), none, none, none] 0 []
  refine j_aload_n C dX2_readNumber_0 rfl ?_
  refine j_get C 0 0 2 rfl rfl rfl wU_X2 (by decide) wF_X2_19 rfl dX2_readNumber_1 ?_
  refine j_ist_4 C dX2_readNumber_4 rfl ?_
  refine j_iconst C dX2_readNumber_6 ?_
  refine j_ist_5 C dX2_readNumber_7 rfl ?_
  refine j_iconst C dX2_readNumber_9 ?_
  refine j_ist_6 C dX2_readNumber_10 rfl ?_
  have L12 : ∀ (fuel : Nat) (k v : Int) (P : Int → Int) (hk : 0 ≤ k ∧ k ≤ d) (hv : (k = 0 → v = 0) ∧ (k ≤ 1 → v ≤ 9) ∧ (k ≤ 2 → v ≤ 99) ∧ (k ≤ 3 → v ≤ 999) ∧ 0 ≤ v ∧ v ≤ 9999) (hP : KP O P ∧ P 1 = O 1 + k ∧ P 2 = O 2) (hPB : OB t P) (hfK : fK t (O 0) d.toNat (O 1) = k + fK t (O 0) (d - k).toNat (O 1 + k)) (hfV : fV t (O 0) d.toNat (O 1) 0 = fV t (O 0) (d - k).toNat (O 1 + k) v) (hf12 : (d - k).toNat < fuel), J K 0 0 [orO o P, [(o 1, aJ ((kC K) 0) 100 t)]] [some (.ref (o 0)), some (.int (iI d)), some (.int (iI lo)), some (.int (iI hi)), some (.int (iI (O 1))), some (.int (iI v)), some (.int (iI k))] 12 [] := by
    intro fuel
    induction fuel with
    | zero => intro k v P hk hv hP hPB hfK hfV hf12; exact absurd hf12 (Nat.not_lt_zero _)
    | succ fuel ih12 =>
      intro k v P hk hv hP hPB hfK hfV hf12
      have e0 : P 0 = O 0 := hP.1.1
      have hp1 := hPB.2
      have hpb := pk_bd hPB.1 (P 1)
      have hpe : pk t (P 0) (P 1) = pk t (O 0) (O 1 + k) := by rw [e0, hP.2.1]
      refine j_iload C dX2_readNumber_12 rfl ?_
      refine j_iload_n C dX2_readNumber_14 rfl ?_
      refine j_icmp_ge (tgt := 59) C dX2_readNumber_15 (by decide) (by omega) (by omega) (by omega) (by omega) (fun c15 => ?_) (fun c15 => ?_)
      · have hKk : fK t (O 0) d.toNat (O 1) = k ∧ fV t (O 0) d.toNat (O 1) 0 = v := by
          first
          | (have z : d - k = 0 := by omega
             rw [hfK, hfV, z]
             exact ⟨by show k + 0 = k; omega, rfl⟩)
          | (have z : ¬ (48 ≤ pk t (O 0) (O 1 + k) ∧ pk t (O 0) (O 1 + k) ≤ 57) := (by rw [h22] at c25; split at c25 <;> omega)
             rw [hfK, hfV, fK_e z, fV_e z]
             exact ⟨by omega, rfl⟩)
        refine j_aload_n C dX2_readNumber_59 rfl ?_
        refine j_get C 0 0 2 rfl rfl rfl wU_X2 (by decide) wF_X2_19 rfl dX2_readNumber_60 ?_
        refine j_iload C dX2_readNumber_63 rfl ?_
        refine j_icmp_eq (tgt := 78) C dX2_readNumber_65 (by decide) (by omega) (by omega) (by omega) (by omega) (fun c65 => ?_) (fun c65 => ?_)
        · refine j_aload_n C dX2_readNumber_78 rfl ?_
          refine j_aload_n C dX2_readNumber_79 rfl ?_
          refine j_get C 0 0 2 rfl rfl rfl wU_X2 (by decide) wF_X2_19 rfl dX2_readNumber_80 ?_
          refine j_perm (pm_2_0 _ _) ?_
          refine j_callVi C (As := [.int (iI _)]) (c_X2_fail _ _ _ _ _ _ ) 1 nf_X2_fail (jb := 0) rfl rfl wL_X2_53 wI_X2_fail wSe_X2_X2_fail wIn_X2 wC_X2_fail rfl rfl (by decide) dX2_readNumber_83 (Nat.le_of_ble_eq_true rfl) ⟨Nat.le_of_ble_eq_true rfl, Nat.le_of_ble_eq_true rfl⟩ (fun x83 u83 h83 => ?_)
          refine j_perm (pr_2_0 _ _) ?_
          refine j_pop C dX2_readNumber_86 rfl ?_
          refine j_iconst C dX2_readNumber_87 ?_
          refine hR (st P 2 (P 1)) dX2_readNumber_88 ?_ rfl (Nat.le_of_ble_eq_true rfl) (Nat.le_of_ble_eq_true rfl)
          refine ⟨KP_st hP.1 (by omega), by rw [st_n (by decide)]; omega, Or.inr ?_⟩
          rw [st_s]
          have e9 : fE t (O 0) d.toNat lo hi (O 1) = P 1 := by
            unfold fE
            rw [hKk.1, if_pos (by first | (left; omega) | (right; rw [h72] at c75; split at c75 <;> omega))]
            omega
          exact ⟨by omega, rfl, e9.symm⟩
        · refine j_aload_n C dX2_readNumber_68 rfl ?_
          refine j_perm (pm_2_0_1 _ _) ?_
          refine j_callVi C (As := []) (c_X2_peek _ _ _ _ _ _ (by first | assumption | omega)) 0 nf_X2_peek (jb := 0) rfl rfl wL_X2_32 wI_X2_peek wSe_X2_X2_peek wIn_X2 wC_X2_peek rfl rfl (by decide) dX2_readNumber_69 (Nat.le_of_ble_eq_true rfl) ⟨Nat.le_of_ble_eq_true rfl, Nat.le_of_ble_eq_true rfl⟩ (fun x69 u69 h69 => ?_)
          refine j_perm (pr_2_0_1 _ _) ?_
          refine j_perm (pm_2 _ _) ?_
          refine j_callSi C (As := [.int (iI _)]) (c_X2_isDigit _ _ _ _ (by first | assumption | omega)) 1 nf_X2_isDigit.2 wL_X2_72 wS_X2_isDigit wIn_X2 wC_X2_isDigit rfl rfl (by decide) dX2_readNumber_72 (Nat.le_of_ble_eq_true rfl) ⟨Nat.le_of_ble_eq_true rfl, Nat.le_of_ble_eq_true rfl⟩ (fun x72 u72 h72 => ?_)
          refine j_perm (pr_2 _ _) ?_
          refine j_if_eq (tgt := 89) C dX2_readNumber_75 (by decide) (by omega) (by omega) (fun c75 => ?_) (fun c75 => ?_)
          · refine j_iload C dX2_readNumber_89 rfl ?_
            refine j_iload_n C dX2_readNumber_91 rfl ?_
            refine j_icmp_lt (tgt := 101) C dX2_readNumber_92 (by decide) (by omega) (by omega) (by omega) (by omega) (fun c92 => ?_) (fun c92 => ?_)
            · refine j_aload_n C dX2_readNumber_101 rfl ?_
              refine j_iload C dX2_readNumber_102 rfl ?_
              refine j_perm (pm_2_0 _ _) ?_
              refine j_callVi C (As := [.int (iI _)]) (c_X2_fail _ _ _ _ _ _ ) 1 nf_X2_fail (jb := 0) rfl rfl wL_X2_53 wI_X2_fail wSe_X2_X2_fail wIn_X2 wC_X2_fail rfl rfl (by decide) dX2_readNumber_104 (Nat.le_of_ble_eq_true rfl) ⟨Nat.le_of_ble_eq_true rfl, Nat.le_of_ble_eq_true rfl⟩ (fun x104 u104 h104 => ?_)
              refine j_perm (pr_2_0 _ _) ?_
              refine j_pop C dX2_readNumber_107 rfl ?_
              refine j_iconst C dX2_readNumber_108 ?_
              refine hR (st P 2 (O 1)) dX2_readNumber_109 ?_ rfl (Nat.le_of_ble_eq_true rfl) (Nat.le_of_ble_eq_true rfl)
              refine ⟨KP_st hP.1 (by omega), by rw [st_n (by decide)]; omega, Or.inr ?_⟩
              rw [st_s]
              have e9 : fE t (O 0) d.toNat lo hi (O 1) = O 1 := by
                unfold fE
                rw [hKk.1, hKk.2, if_neg (by rw [h72] at c75; split at c75 <;> omega), if_pos (by omega)]
              exact ⟨by omega, rfl, e9.symm⟩
            · refine j_iload C dX2_readNumber_95 rfl ?_
              refine j_iload_n C dX2_readNumber_97 rfl ?_
              refine j_icmp_le (tgt := 110) C dX2_readNumber_98 (by decide) (by omega) (by omega) (by omega) (by omega) (fun c98 => ?_) (fun c98 => ?_)
              · refine j_iload C dX2_readNumber_110 rfl ?_
                refine hR P dX2_readNumber_112 ?_ rfl (Nat.le_of_ble_eq_true rfl) (Nat.le_of_ble_eq_true rfl)
                refine ⟨hP.1, by omega, Or.inl ⟨?_, by omega, hP.2.2, by omega, by omega, by omega⟩⟩
                unfold fE
                rw [hKk.1, hKk.2, if_neg (by rw [h72] at c75; split at c75 <;> omega), if_neg (by omega)]
              · refine j_aload_n C dX2_readNumber_101 rfl ?_
                refine j_iload C dX2_readNumber_102 rfl ?_
                refine j_perm (pm_2_0 _ _) ?_
                refine j_callVi C (As := [.int (iI _)]) (c_X2_fail _ _ _ _ _ _ ) 1 nf_X2_fail (jb := 0) rfl rfl wL_X2_53 wI_X2_fail wSe_X2_X2_fail wIn_X2 wC_X2_fail rfl rfl (by decide) dX2_readNumber_104 (Nat.le_of_ble_eq_true rfl) ⟨Nat.le_of_ble_eq_true rfl, Nat.le_of_ble_eq_true rfl⟩ (fun x104 u104 h104 => ?_)
                refine j_perm (pr_2_0 _ _) ?_
                refine j_pop C dX2_readNumber_107 rfl ?_
                refine j_iconst C dX2_readNumber_108 ?_
                refine hR (st P 2 (O 1)) dX2_readNumber_109 ?_ rfl (Nat.le_of_ble_eq_true rfl) (Nat.le_of_ble_eq_true rfl)
                refine ⟨KP_st hP.1 (by omega), by rw [st_n (by decide)]; omega, Or.inr ?_⟩
                rw [st_s]
                have e9 : fE t (O 0) d.toNat lo hi (O 1) = O 1 := by
                  unfold fE
                  rw [hKk.1, hKk.2, if_neg (by rw [h72] at c75; split at c75 <;> omega), if_pos (by omega)]
                exact ⟨by omega, rfl, e9.symm⟩
          · refine j_aload_n C dX2_readNumber_78 rfl ?_
            refine j_aload_n C dX2_readNumber_79 rfl ?_
            refine j_get C 0 0 2 rfl rfl rfl wU_X2 (by decide) wF_X2_19 rfl dX2_readNumber_80 ?_
            refine j_perm (pm_2_0 _ _) ?_
            refine j_callVi C (As := [.int (iI _)]) (c_X2_fail _ _ _ _ _ _ ) 1 nf_X2_fail (jb := 0) rfl rfl wL_X2_53 wI_X2_fail wSe_X2_X2_fail wIn_X2 wC_X2_fail rfl rfl (by decide) dX2_readNumber_83 (Nat.le_of_ble_eq_true rfl) ⟨Nat.le_of_ble_eq_true rfl, Nat.le_of_ble_eq_true rfl⟩ (fun x83 u83 h83 => ?_)
            refine j_perm (pr_2_0 _ _) ?_
            refine j_pop C dX2_readNumber_86 rfl ?_
            refine j_iconst C dX2_readNumber_87 ?_
            refine hR (st P 2 (P 1)) dX2_readNumber_88 ?_ rfl (Nat.le_of_ble_eq_true rfl) (Nat.le_of_ble_eq_true rfl)
            refine ⟨KP_st hP.1 (by omega), by rw [st_n (by decide)]; omega, Or.inr ?_⟩
            rw [st_s]
            have e9 : fE t (O 0) d.toNat lo hi (O 1) = P 1 := by
              unfold fE
              rw [hKk.1, if_pos (by first | (left; omega) | (right; rw [h72] at c75; split at c75 <;> omega))]
              omega
            exact ⟨by omega, rfl, e9.symm⟩
      · refine j_aload_n C dX2_readNumber_18 rfl ?_
        refine j_perm (pm_2_0_1 _ _) ?_
        refine j_callVi C (As := []) (c_X2_peek _ _ _ _ _ _ (by first | assumption | omega)) 0 nf_X2_peek (jb := 0) rfl rfl wL_X2_32 wI_X2_peek wSe_X2_X2_peek wIn_X2 wC_X2_peek rfl rfl (by decide) dX2_readNumber_19 (Nat.le_of_ble_eq_true rfl) ⟨Nat.le_of_ble_eq_true rfl, Nat.le_of_ble_eq_true rfl⟩ (fun x19 u19 h19 => ?_)
        refine j_perm (pr_2_0_1 _ _) ?_
        refine j_perm (pm_2 _ _) ?_
        refine j_callSi C (As := [.int (iI _)]) (c_X2_isDigit _ _ _ _ (by first | assumption | omega)) 1 nf_X2_isDigit.2 wL_X2_72 wS_X2_isDigit wIn_X2 wC_X2_isDigit rfl rfl (by decide) dX2_readNumber_22 (Nat.le_of_ble_eq_true rfl) ⟨Nat.le_of_ble_eq_true rfl, Nat.le_of_ble_eq_true rfl⟩ (fun x22 u22 h22 => ?_)
        refine j_perm (pr_2 _ _) ?_
        refine j_if_eq (tgt := 59) C dX2_readNumber_25 (by decide) (by omega) (by omega) (fun c25 => ?_) (fun c25 => ?_)
        · have hKk : fK t (O 0) d.toNat (O 1) = k ∧ fV t (O 0) d.toNat (O 1) 0 = v := by
            first
            | (have z : d - k = 0 := by omega
               rw [hfK, hfV, z]
               exact ⟨by show k + 0 = k; omega, rfl⟩)
            | (have z : ¬ (48 ≤ pk t (O 0) (O 1 + k) ∧ pk t (O 0) (O 1 + k) ≤ 57) := (by rw [h22] at c25; split at c25 <;> omega)
               rw [hfK, hfV, fK_e z, fV_e z]
               exact ⟨by omega, rfl⟩)
          refine j_aload_n C dX2_readNumber_59 rfl ?_
          refine j_get C 0 0 2 rfl rfl rfl wU_X2 (by decide) wF_X2_19 rfl dX2_readNumber_60 ?_
          refine j_iload C dX2_readNumber_63 rfl ?_
          refine j_icmp_eq (tgt := 78) C dX2_readNumber_65 (by decide) (by omega) (by omega) (by omega) (by omega) (fun c65 => ?_) (fun c65 => ?_)
          · refine j_aload_n C dX2_readNumber_78 rfl ?_
            refine j_aload_n C dX2_readNumber_79 rfl ?_
            refine j_get C 0 0 2 rfl rfl rfl wU_X2 (by decide) wF_X2_19 rfl dX2_readNumber_80 ?_
            refine j_perm (pm_2_0 _ _) ?_
            refine j_callVi C (As := [.int (iI _)]) (c_X2_fail _ _ _ _ _ _ ) 1 nf_X2_fail (jb := 0) rfl rfl wL_X2_53 wI_X2_fail wSe_X2_X2_fail wIn_X2 wC_X2_fail rfl rfl (by decide) dX2_readNumber_83 (Nat.le_of_ble_eq_true rfl) ⟨Nat.le_of_ble_eq_true rfl, Nat.le_of_ble_eq_true rfl⟩ (fun x83 u83 h83 => ?_)
            refine j_perm (pr_2_0 _ _) ?_
            refine j_pop C dX2_readNumber_86 rfl ?_
            refine j_iconst C dX2_readNumber_87 ?_
            refine hR (st P 2 (P 1)) dX2_readNumber_88 ?_ rfl (Nat.le_of_ble_eq_true rfl) (Nat.le_of_ble_eq_true rfl)
            refine ⟨KP_st hP.1 (by omega), by rw [st_n (by decide)]; omega, Or.inr ?_⟩
            rw [st_s]
            have e9 : fE t (O 0) d.toNat lo hi (O 1) = P 1 := by
              unfold fE
              rw [hKk.1, if_pos (by first | (left; omega) | (right; rw [h72] at c75; split at c75 <;> omega))]
              omega
            exact ⟨by omega, rfl, e9.symm⟩
          · refine j_aload_n C dX2_readNumber_68 rfl ?_
            refine j_perm (pm_2_0_1 _ _) ?_
            refine j_callVi C (As := []) (c_X2_peek _ _ _ _ _ _ (by first | assumption | omega)) 0 nf_X2_peek (jb := 0) rfl rfl wL_X2_32 wI_X2_peek wSe_X2_X2_peek wIn_X2 wC_X2_peek rfl rfl (by decide) dX2_readNumber_69 (Nat.le_of_ble_eq_true rfl) ⟨Nat.le_of_ble_eq_true rfl, Nat.le_of_ble_eq_true rfl⟩ (fun x69 u69 h69 => ?_)
            refine j_perm (pr_2_0_1 _ _) ?_
            refine j_perm (pm_2 _ _) ?_
            refine j_callSi C (As := [.int (iI _)]) (c_X2_isDigit _ _ _ _ (by first | assumption | omega)) 1 nf_X2_isDigit.2 wL_X2_72 wS_X2_isDigit wIn_X2 wC_X2_isDigit rfl rfl (by decide) dX2_readNumber_72 (Nat.le_of_ble_eq_true rfl) ⟨Nat.le_of_ble_eq_true rfl, Nat.le_of_ble_eq_true rfl⟩ (fun x72 u72 h72 => ?_)
            refine j_perm (pr_2 _ _) ?_
            refine j_if_eq (tgt := 89) C dX2_readNumber_75 (by decide) (by omega) (by omega) (fun c75 => ?_) (fun c75 => ?_)
            · refine j_iload C dX2_readNumber_89 rfl ?_
              refine j_iload_n C dX2_readNumber_91 rfl ?_
              refine j_icmp_lt (tgt := 101) C dX2_readNumber_92 (by decide) (by omega) (by omega) (by omega) (by omega) (fun c92 => ?_) (fun c92 => ?_)
              · refine j_aload_n C dX2_readNumber_101 rfl ?_
                refine j_iload C dX2_readNumber_102 rfl ?_
                refine j_perm (pm_2_0 _ _) ?_
                refine j_callVi C (As := [.int (iI _)]) (c_X2_fail _ _ _ _ _ _ ) 1 nf_X2_fail (jb := 0) rfl rfl wL_X2_53 wI_X2_fail wSe_X2_X2_fail wIn_X2 wC_X2_fail rfl rfl (by decide) dX2_readNumber_104 (Nat.le_of_ble_eq_true rfl) ⟨Nat.le_of_ble_eq_true rfl, Nat.le_of_ble_eq_true rfl⟩ (fun x104 u104 h104 => ?_)
                refine j_perm (pr_2_0 _ _) ?_
                refine j_pop C dX2_readNumber_107 rfl ?_
                refine j_iconst C dX2_readNumber_108 ?_
                refine hR (st P 2 (O 1)) dX2_readNumber_109 ?_ rfl (Nat.le_of_ble_eq_true rfl) (Nat.le_of_ble_eq_true rfl)
                refine ⟨KP_st hP.1 (by omega), by rw [st_n (by decide)]; omega, Or.inr ?_⟩
                rw [st_s]
                have e9 : fE t (O 0) d.toNat lo hi (O 1) = O 1 := by
                  unfold fE
                  rw [hKk.1, hKk.2, if_neg (by rw [h72] at c75; split at c75 <;> omega), if_pos (by omega)]
                exact ⟨by omega, rfl, e9.symm⟩
              · refine j_iload C dX2_readNumber_95 rfl ?_
                refine j_iload_n C dX2_readNumber_97 rfl ?_
                refine j_icmp_le (tgt := 110) C dX2_readNumber_98 (by decide) (by omega) (by omega) (by omega) (by omega) (fun c98 => ?_) (fun c98 => ?_)
                · refine j_iload C dX2_readNumber_110 rfl ?_
                  refine hR P dX2_readNumber_112 ?_ rfl (Nat.le_of_ble_eq_true rfl) (Nat.le_of_ble_eq_true rfl)
                  refine ⟨hP.1, by omega, Or.inl ⟨?_, by omega, hP.2.2, by omega, by omega, by omega⟩⟩
                  unfold fE
                  rw [hKk.1, hKk.2, if_neg (by rw [h72] at c75; split at c75 <;> omega), if_neg (by omega)]
                · refine j_aload_n C dX2_readNumber_101 rfl ?_
                  refine j_iload C dX2_readNumber_102 rfl ?_
                  refine j_perm (pm_2_0 _ _) ?_
                  refine j_callVi C (As := [.int (iI _)]) (c_X2_fail _ _ _ _ _ _ ) 1 nf_X2_fail (jb := 0) rfl rfl wL_X2_53 wI_X2_fail wSe_X2_X2_fail wIn_X2 wC_X2_fail rfl rfl (by decide) dX2_readNumber_104 (Nat.le_of_ble_eq_true rfl) ⟨Nat.le_of_ble_eq_true rfl, Nat.le_of_ble_eq_true rfl⟩ (fun x104 u104 h104 => ?_)
                  refine j_perm (pr_2_0 _ _) ?_
                  refine j_pop C dX2_readNumber_107 rfl ?_
                  refine j_iconst C dX2_readNumber_108 ?_
                  refine hR (st P 2 (O 1)) dX2_readNumber_109 ?_ rfl (Nat.le_of_ble_eq_true rfl) (Nat.le_of_ble_eq_true rfl)
                  refine ⟨KP_st hP.1 (by omega), by rw [st_n (by decide)]; omega, Or.inr ?_⟩
                  rw [st_s]
                  have e9 : fE t (O 0) d.toNat lo hi (O 1) = O 1 := by
                    unfold fE
                    rw [hKk.1, hKk.2, if_neg (by rw [h72] at c75; split at c75 <;> omega), if_pos (by omega)]
                  exact ⟨by omega, rfl, e9.symm⟩
            · refine j_aload_n C dX2_readNumber_78 rfl ?_
              refine j_aload_n C dX2_readNumber_79 rfl ?_
              refine j_get C 0 0 2 rfl rfl rfl wU_X2 (by decide) wF_X2_19 rfl dX2_readNumber_80 ?_
              refine j_perm (pm_2_0 _ _) ?_
              refine j_callVi C (As := [.int (iI _)]) (c_X2_fail _ _ _ _ _ _ ) 1 nf_X2_fail (jb := 0) rfl rfl wL_X2_53 wI_X2_fail wSe_X2_X2_fail wIn_X2 wC_X2_fail rfl rfl (by decide) dX2_readNumber_83 (Nat.le_of_ble_eq_true rfl) ⟨Nat.le_of_ble_eq_true rfl, Nat.le_of_ble_eq_true rfl⟩ (fun x83 u83 h83 => ?_)
              refine j_perm (pr_2_0 _ _) ?_
              refine j_pop C dX2_readNumber_86 rfl ?_
              refine j_iconst C dX2_readNumber_87 ?_
              refine hR (st P 2 (P 1)) dX2_readNumber_88 ?_ rfl (Nat.le_of_ble_eq_true rfl) (Nat.le_of_ble_eq_true rfl)
              refine ⟨KP_st hP.1 (by omega), by rw [st_n (by decide)]; omega, Or.inr ?_⟩
              rw [st_s]
              have e9 : fE t (O 0) d.toNat lo hi (O 1) = P 1 := by
                unfold fE
                rw [hKk.1, if_pos (by first | (left; omega) | (right; rw [h72] at c75; split at c75 <;> omega))]
                omega
              exact ⟨by omega, rfl, e9.symm⟩
        · have hdg : 48 ≤ pk t (O 0) (O 1 + k) ∧ pk t (O 0) (O 1 + k) ≤ 57 := by rw [← hpe, ← h19]; rw [h22] at c25; split at c25 <;> omega
          have hpi := pk_inn (show pk t (P 0) (P 1) ≠ -1 by omega)
          refine j_iload C dX2_readNumber_28 rfl ?_
          refine j_bipush C dX2_readNumber_30 (by decide) ?_
          refine j_imul C dX2_readNumber_32 ?_
          refine j_aload_n C dX2_readNumber_33 rfl ?_
          refine j_perm (pm_2_0_1 _ _) ?_
          refine j_callVi C (As := []) (c_X2_peek _ _ _ _ _ _ (by first | assumption | omega)) 0 nf_X2_peek (jb := 0) rfl rfl wL_X2_32 wI_X2_peek wSe_X2_X2_peek wIn_X2 wC_X2_peek rfl rfl (by decide) dX2_readNumber_34 (Nat.le_of_ble_eq_true rfl) ⟨Nat.le_of_ble_eq_true rfl, Nat.le_of_ble_eq_true rfl⟩ (fun x34 u34 h34 => ?_)
          refine j_perm (pr_2_0_1 _ _) ?_
          refine j_iadd C dX2_readNumber_37 ?_
          refine j_bipush C dX2_readNumber_38 (by decide) ?_
          refine j_isub C dX2_readNumber_40 ?_
          refine j_ist_5 C dX2_readNumber_41 rfl ?_
          refine j_aload_n C dX2_readNumber_43 rfl ?_
          refine j_dup C dX2_readNumber_44 rfl ?_
          refine j_get C 0 0 2 rfl rfl rfl wU_X2 (by decide) wF_X2_19 rfl dX2_readNumber_45 ?_
          refine j_iconst C dX2_readNumber_48 ?_
          refine j_iadd C dX2_readNumber_49 ?_
          refine j_put_p0 C 0 2 rfl orO_put1 rfl wU_X2 tyX2_ok nmX2 (by decide) wF_X2_19 rfl rfl rfl (Nat.le_of_ble_eq_true rfl) dX2_readNumber_50 ?_
          refine j_iinc_6 C dX2_readNumber_53 rfl ?_
          refine j_goto (tgt := 12) C dX2_readNumber_56 (by decide) ?_
          exact ih12 _ _ _ (by omega) (by omega) (by exact ⟨KP_st hP.1 (by omega), by rw [st_s, hP.2.1]; omega, by rw [st_n (by decide)]; exact hP.2.2⟩) (by exact ⟨by rw [st_n (by decide)]; exact hPB.1, by rw [st_s, st_n (by decide)]; omega⟩) (by rw [hfK, show (d - k).toNat = (d - (k + 1)).toNat + 1 by omega, fK_s hdg, show O 1 + k + 1 = O 1 + (k + 1) by omega]; omega) (by rw [hfV, show (d - k).toNat = (d - (k + 1)).toNat + 1 by omega, fV_s hdg, show O 1 + k + 1 = O 1 + (k + 1) by omega, h34, hpe]) (by omega)
  exact L12 _ _ _ _ (by omega) (by omega) (by exact ⟨KP_r O, by omega, rfl⟩) (by exact hb) (by rw [show d - 0 = d by omega, show O 1 + 0 = O 1 by omega]; omega) (by rw [show d - 0 = d by omega, show O 1 + 0 = O 1 by omega]) (Nat.lt_succ_self _)
