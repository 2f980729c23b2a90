/-! the orders: what is read -/
theorem ori_ini {q q1 : Nat} : ([(q, .inr (2, [.ref q1, .int 0, .int 0, .int 0, .int 0, .int 0, .int 0, .int 0, .int 0, .int 0]))] : va_W) = orO (ad9 q q1 0 0 0 0 0 0 0) (fun _ => 0) := by
  unfold orO
  rw [← iI_zero]
  rfl
theorem pm_2_1_0 (B0 B1 : va_W) : [B0, B1].Perm ([B1, B0] ++ []) := List.Perm.trans (List.perm_middle (l₁ := [B0]) (a := B1) (l₂ := [])) (List.Perm.cons _ (List.Perm.refl _))
theorem pr_2_1_0 (B0 B1 : va_W) : ([B1, B0] ++ []).Perm [B0, B1] := (pm_2_1_0 B0 B1).symm
set_option maxHeartbeats 4000000 in
set_option maxRecDepth 100000 in
theorem c_X2_init (l : Launch) (D : va_G) (cA : Nat → ClassId) (q : Nat)  : MV (U := Nat → Nat) l yX2_init cX2_init 1 none (rmN 1 1 100) D cA [.ref (q)] [[(q, .inr (2, [.null, .int 0, .int 0, .int 0, .int 0, .int 0, .int 0, .int 0, .int 0, .int 0]))]] (fun d => d 0 = q) (fun o => [orO o (fun _ => 0), [(o 1, aJ (cA 0) 100 (fun _ => 0))]]) := by
  refine m_startV pn_X2 rfl (List.forall_mem_cons.mpr ⟨rfl, fun _ h => absurd h List.not_mem_nil⟩) (Nat.le_of_ble_eq_true rfl) ?_
  intro K C e1 e2 e3 hin hR
  subst e1 e2 e3
  show J K 0 0 [[(q, .inr (2, [.null, .int 0, .int 0, .int 0, .int 0, .int 0, .int 0, .int 0, .int 0, .int 0]))]] [some (.ref (q))] 0 []
  refine j_aload_n C dX2_init_0 rfl ?_
  refine j_objInit C rfl wL_X2_3 dX2_init_1 ⟨by decide, Nat.le_of_ble_eq_true rfl⟩ ?_
  refine j_aload_n C dX2_init_4 rfl ?_
  refine j_bipush C dX2_init_5 (by decide) ?_
  refine j_newi C 100 (by decide) (by decide) wA__int (by decide) dX2_init_7 (fun q1 => ?_)
  refine j_putF_p1 C hin 0 0 (B' := [(q, .inr (2, [.ref q1, .int 0, .int 0, .int 0, .int 0, .int 0, .int 0, .int 0, .int 0, .int 0]))]) rfl rfl rfl wU_X2 tyX2_ok nmX2 (by decide) wF_X2_9 rfl rfl rfl rfl (Nat.le_of_ble_eq_true rfl) dX2_init_9 ?_
  refine j_perm (pm_2_1_0 _ _) ?_
  rw [ori_ini]
  exact hR (ad9 q q1 0 0 0 0 0 0 0) dX2_init_12 (by rfl) rfl (Nat.le_of_ble_eq_true rfl) (Nat.le_of_ble_eq_true rfl)
