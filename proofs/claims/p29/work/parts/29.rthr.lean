/-! the rings: made; rings through a debt -/
theorem rgO_ini {q q1 q2 q3 : Nat} : ([(q, .inr (4, [.ref q1, .ref q2, .ref q3, .int 0]))] : va_W) = rgO (ad9 q q2 q3 0 0 0 0 0 0) q1 0 := by
  unfold rgO
  rw [← iI_zero]
  rfl
def Thr (S th : Int → Int) : Prop := ∀ q : Int, 0 ≤ q → q < 49 → th q = thr q (RS S)
theorem thr_drop {q : Int} {L : List (List Int)} {k : Nat} (hk : k < L.length) : thr q (L.drop k) = (if q ∈ prs (L.getD k []) then 1 else 0) + thr q (L.drop (k + 1)) := by
  rw [List.drop_eq_getElem_cons hk, thr, List.getD_eq_getElem?_getD, List.getElem?_eq_getElem hk]
  rfl
theorem mem_drop {q : Int} {l : List Int} {k : Nat} (hn : l.Nodup) (hk : k < l.length) : (if q ∈ l.drop k then (1 : Int) else 0) = (if q = l.getD k (-1) then 1 else 0) + (if q ∈ l.drop (k + 1) then 1 else 0) := by
  have hd := List.drop_eq_getElem_cons hk
  have h2 := hn.sublist (List.drop_sublist k l)
  have e : l.getD k (-1) = l[k] := by rw [List.getD_eq_getElem?_getD, List.getElem?_eq_getElem hk]; rfl
  rw [hd, List.nodup_cons] at h2
  rw [hd, e]
  by_cases a : q = l[k]
  · rw [if_pos (by rw [a]; exact List.mem_cons_self), if_pos a, if_neg (by rw [a]; exact h2.1)]
    rfl
  · by_cases b : q ∈ l.drop (k + 1)
    · rw [if_pos (List.mem_cons_of_mem _ b), if_neg a, if_pos b]
      rfl
    · rw [if_neg (fun z => (List.mem_cons.mp z).elim a b), if_neg a, if_neg b]
      rfl
theorem pm_2_0 (B0 B1 : va_W) : [B0, B1].Perm ([B0] ++ [B1]) := List.Perm.refl _
theorem pr_2_0 (B0 B1 : va_W) : ([B0] ++ [B1]).Perm [B0, B1] := (pm_2_0 B0 B1).symm
theorem pm_7_6_2_3_4_5_1_0 (B0 B1 B2 B3 B4 B5 B6 : va_W) : [B0, B1, B2, B3, B4, B5, B6].Perm ([B6, B2, B3, B4, B5, B1, B0] ++ []) := List.Perm.trans (List.perm_middle (l₁ := [B0, B1, B2, B3, B4, B5]) (a := B6) (l₂ := [])) (List.Perm.trans (List.Perm.cons _ (List.perm_middle (l₁ := [B0, B1]) (a := B2) (l₂ := [B3, B4, B5]))) (List.Perm.trans (List.Perm.cons _ (List.Perm.cons _ (List.perm_middle (l₁ := [B0, B1]) (a := B3) (l₂ := [B4, B5])))) (List.Perm.trans (List.Perm.cons _ (List.Perm.cons _ (List.Perm.cons _ (List.perm_middle (l₁ := [B0, B1]) (a := B4) (l₂ := [B5]))))) (List.Perm.trans (List.Perm.cons _ (List.Perm.cons _ (List.Perm.cons _ (List.Perm.cons _ (List.perm_middle (l₁ := [B0, B1]) (a := B5) (l₂ := [])))))) (List.Perm.trans (List.Perm.cons _ (List.Perm.cons _ (List.Perm.cons _ (List.Perm.cons _ (List.Perm.cons _ (List.perm_middle (l₁ := [B0]) (a := B1) (l₂ := []))))))) (List.Perm.cons _ (List.Perm.cons _ (List.Perm.cons _ (List.Perm.cons _ (List.Perm.cons _ (List.Perm.cons _ (List.Perm.refl _))))))))))))
theorem pr_7_6_2_3_4_5_1_0 (B0 B1 B2 B3 B4 B5 B6 : va_W) : ([B6, B2, B3, B4, B5, B1, B0] ++ []).Perm [B0, B1, B2, B3, B4, B5, B6] := (pm_7_6_2_3_4_5_1_0 B0 B1 B2 B3 B4 B5 B6).symm
set_option maxHeartbeats 4000000 in
set_option maxRecDepth 100000 in
theorem c_X4_init (l : Launch) (D : va_G) (cA : Nat → ClassId) (q : Nat)  : MV (U := (Nat → Nat) × (Nat → Nat)) l yX4_init cX4_init 1 none (rmN 2 6 2555) D cA [.ref (q)] [[(q, .inr (4, [.null, .null, .null, .int 0]))]] (fun u => u.1 0 = q) (fun u => [rgO u.1 (u.2 0) 0, dbO u.2, [(u.2 1, aJ (cA 0) 49 (fun _ => 0))], [(u.2 2, aJ (cA 0) 49 (fun _ => 0))], [(u.2 3, aJ (cA 0) 40 (fun _ => 0))], [(u.1 1, aJ (cA 0) 2365 (fun _ => 0))], [(u.1 2, aJ (cA 0) 49 (fun _ => 0))]]) := by
  refine m_startV pn_X4 rfl (List.forall_mem_cons.mpr ⟨rfl, fun _ h => absurd h List.not_mem_nil⟩) (Nat.le_of_ble_eq_true rfl) ?_
  intro K C e1 e2 e3 hin hR
  subst e1 e2 e3
  show J K 0 0 [[(q, .inr (4, [.null, .null, .null, .int 0]))]] [some (.ref (q))] 0 []
  refine j_aload_n C dX4_init_0 rfl ?_
  refine j_objInit C rfl wL_X4_5 dX4_init_1 ⟨by decide, Nat.le_of_ble_eq_true rfl⟩ ?_
  refine j_aload_n C dX4_init_4 rfl ?_
  refine j_new C (ci := 1) (fs := [.null, .null, .null]) (T := TX1) (tt := tyX1) rfl wU_X1 tyX1_ok wK_X4_11 wIb_X1 wIn_X1 (fun j hj => by rcases (show j = 0 ∨ j = 1 ∨ j = 2 by omega) with rfl | rfl | rfl <;> rfl) (by decide) dX4_init_5 (fun q1 => ?_)
  refine j_dup C dX4_init_8 rfl ?_
  refine j_perm (pm_2_0 _ _) ?_
  refine j_callINv C (As := []) (c_X1_init _ _ _ _ ) 0 nf_X1_init.2 rfl rfl wLN_X4_13 wI_X1_init wIn_X1 wC_X1_init rfl rfl (by decide) dX4_init_9 (Nat.le_of_ble_eq_true rfl) ⟨Nat.le_of_ble_eq_true rfl, Nat.le_of_ble_eq_true rfl⟩ (fun u9 h9 => ?_)
  refine j_perm (ws' := [_, _, _, _, _]) (List.Perm.refl _) ?_
  refine j_putF_p4 C hin 0 0 (B' := [(q, .inr (4, [.ref q1, .null, .null, .int 0]))]) rfl rfl rfl wU_X4 tyX4_ok nmX4 (by decide) wF_X4_14 rfl rfl rfl rfl (Nat.le_of_ble_eq_true rfl) dX4_init_12 ?_
  refine j_aload_n C dX4_init_15 rfl ?_
  refine j_sipush C dX4_init_16 (by decide) ?_
  refine j_newi C 2365 (by decide) (by decide) wA__int (by decide) dX4_init_19 (fun q2 => ?_)
  refine j_putF_p5 C hin 0 1 (B' := [(q, .inr (4, [.ref q1, .ref q2, .null, .int 0]))]) rfl rfl rfl wU_X4 tyX4_ok nmX4 (by decide) wF_X4_18 rfl rfl rfl rfl (Nat.le_of_ble_eq_true rfl) dX4_init_21 ?_
  refine j_aload_n C dX4_init_24 rfl ?_
  refine j_bipush C dX4_init_25 (by decide) ?_
  refine j_newi C 49 (by decide) (by decide) wA__int (by decide) dX4_init_27 (fun q3 => ?_)
  refine j_putF_p6 C hin 0 2 (B' := [(q, .inr (4, [.ref q1, .ref q2, .ref q3, .int 0]))]) rfl rfl rfl wU_X4 tyX4_ok nmX4 (by decide) wF_X4_22 rfl rfl rfl rfl (Nat.le_of_ble_eq_true rfl) dX4_init_29 ?_
  refine j_perm (pm_7_6_2_3_4_5_1_0 _ _ _ _ _ _ _) ?_
  rw [rgO_ini, ← h9]
  exact hR (ad9 q q2 q3 0 0 0 0 0 0, u9) dX4_init_32 (by rfl) rfl (Nat.le_of_ble_eq_true rfl) (Nat.le_of_ble_eq_true rfl)
