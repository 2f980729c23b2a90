/-! the class: what is saved -/
def svL (L : List ((Nat → Nat) × (Int → Int))) : Nat → Option Nat := fun j => (L[j]?).map (fun p => p.1 0)
def svB (cA : Nat → ClassId) (v : Nat) (L : List ((Nat → Nat) × (Int → Int))) : va_W := (v, rJ (cA 2) 4 (svL L)) :: (L.map (fun p => bk cA p.1 p.2)).flatten
def svNx (c : Int) (L : List ((Nat → Nat) × (Int → Int))) (p : (Nat → Nat) × (Int → Int)) : List ((Nat → Nat) × (Int → Int)) := if c < 4 then L.take c.toNat ++ p :: L.drop (c.toNat + 1) else L.drop 1 ++ [p]
theorem svL_ap {L1 L2 : List ((Nat → Nat) × (Int → Int))} {p : (Nat → Nat) × (Int → Int)} : svL (L1 ++ p :: L2) L1.length = some (p.1 0) := by
  unfold svL
  rw [List.getElem?_append_right (Nat.le_refl _), Nat.sub_self]
  rfl
theorem svL_sm {L1 L2 : List ((Nat → Nat) × (Int → Int))} {p q : (Nat → Nat) × (Int → Int)} (h : p.1 = q.1) : svL (L1 ++ p :: L2) = svL (L1 ++ q :: L2) := by
  funext j
  unfold svL
  by_cases c : j < L1.length
  · rw [List.getElem?_append_left c, List.getElem?_append_left c]
  · rw [List.getElem?_append_right (by omega), List.getElem?_append_right (by omega)]
    cases j - L1.length with
    | zero => simp [h]
    | succ n => rfl
theorem svL_nx {L : List ((Nat → Nat) × (Int → Int))} {p : (Nat → Nat) × (Int → Int)} {x : Nat} (hx : x = L.length) : va_up (svL L) x (some (p.1 0)) = svL (L ++ [p]) := by
  funext j
  unfold va_up svL
  by_cases c : j = x
  · rw [if_pos c, List.getElem?_append_right (by omega), show j - L.length = 0 by omega]
    rfl
  · rw [if_neg c]
    by_cases d : j < L.length
    · rw [List.getElem?_append_left d]
    · rw [List.getElem?_eq_none (by omega), List.getElem?_eq_none (by rw [List.length_append]; simp; omega)]
theorem svL_no {L : List ((Nat → Nat) × (Int → Int))} {x : Nat} (hx : x = L.length) : svL L x = none := by
  unfold svL
  rw [List.getElem?_eq_none (by omega)]
  rfl
theorem svL_4 {p0 p1 p2 p3 : (Nat → Nat) × (Int → Int)} : svL [p0, p1, p2, p3] = svV (some (p0.1 0)) (some (p1.1 0)) (some (p2.1 0)) (some (p3.1 0)) := by
  funext j
  match j with | 0 => rfl | 1 => rfl | 2 => rfl | 3 => rfl | _ + 4 => rfl
theorem svB_f {cA : Nat → ClassId} {v : Nat} {L1 L2 : List ((Nat → Nat) × (Int → Int))} {p : (Nat → Nat) × (Int → Int)} {A B : va_W} : [A, svB cA v (L1 ++ p :: L2), B].flatten = [A, [(v, rJ (cA 2) 4 (svL (L1 ++ p :: L2)))], (L1.map (fun p => bk cA p.1 p.2)).flatten, bk cA p.1 p.2, (L2.map (fun p => bk cA p.1 p.2)).flatten, B].flatten := by
  simp [svB]
theorem svB_g {cA : Nat → ClassId} {v : Nat} {L : List ((Nat → Nat) × (Int → Int))} {A B : va_W} : [A, svB cA v L, B].flatten = [A, [(v, rJ (cA 2) 4 (svL L))], (L.map (fun p => bk cA p.1 p.2)).flatten, B].flatten := by
  simp [svB]
theorem svB_4 {cA : Nat → ClassId} {v : Nat} {p0 p1 p2 p3 : (Nat → Nat) × (Int → Int)} {A B : va_W} : [A, svB cA v [p0, p1, p2, p3], B].flatten = [A, [(v, rJ (cA 2) 4 (svV (some (p0.1 0)) (some (p1.1 0)) (some (p2.1 0)) (some (p3.1 0))))], bk cA p0.1 p0.2, bk cA p1.1 p1.2, bk cA p2.1 p2.2, bk cA p3.1 p3.2, B].flatten := by
  rw [← svL_4]
  simp [svB]
theorem svB_n {cA : Nat → ClassId} {v : Nat} {L : List ((Nat → Nat) × (Int → Int))} {p : (Nat → Nat) × (Int → Int)} {A B : va_W} : [A, svB cA v (L ++ [p]), B].flatten = ([A, [(v, rJ (cA 2) 4 (svL (L ++ [p])))], (L.map (fun p : (Nat → Nat) × (Int → Int) => bk cA p.1 p.2)).flatten, bk cA p.1 p.2, B] ++ [] : List va_W).flatten := by
  simp [svB]
theorem svB_4b {cA : Nat → ClassId} {v : Nat} {p0 p1 p2 p3 : (Nat → Nat) × (Int → Int)} {A B : va_W} : [A, svB cA v [p0, p1, p2, p3], B].flatten = ([A, [(v, rJ (cA 2) 4 (svV (some (p0.1 0)) (some (p1.1 0)) (some (p2.1 0)) (some (p3.1 0))))], bk cA p0.1 p0.2, bk cA p1.1 p1.2, bk cA p2.1 p2.2, bk cA p3.1 p3.2, B] ++ []).flatten := by
  rw [← svL_4]
  simp [svB]
theorem pm_5_0 (B0 B1 B2 B3 B4 : va_W) : [B0, B1, B2, B3, B4].Perm ([B0] ++ [B1, B2, B3, B4]) := List.Perm.refl _
theorem pr_5_0 (B0 B1 B2 B3 B4 : va_W) : ([B0] ++ [B1, B2, B3, B4]).Perm [B0, B1, B2, B3, B4] := (pm_5_0 B0 B1 B2 B3 B4).symm
theorem pm_5_0_4 (B0 B1 B2 B3 B4 : va_W) : [B0, B1, B2, B3, B4].Perm ([B0, B4] ++ [B1, B2, B3]) := List.Perm.trans (List.Perm.refl _) (List.Perm.cons _ (List.perm_middle (l₁ := [B1, B2, B3]) (a := B4) (l₂ := [])))
theorem pr_5_0_4 (B0 B1 B2 B3 B4 : va_W) : ([B0, B4] ++ [B1, B2, B3]).Perm [B0, B1, B2, B3, B4] := (pm_5_0_4 B0 B1 B2 B3 B4).symm
theorem pm_5_1_2_3_0_4 (B0 B1 B2 B3 B4 : va_W) : [B0, B1, B2, B3, B4].Perm ([B1, B2, B3, B0, B4] ++ []) := List.Perm.trans (List.perm_middle (l₁ := [B0]) (a := B1) (l₂ := [B2, B3, B4])) (List.Perm.trans (List.Perm.cons _ (List.perm_middle (l₁ := [B0]) (a := B2) (l₂ := [B3, B4]))) (List.Perm.trans (List.Perm.cons _ (List.Perm.cons _ (List.perm_middle (l₁ := [B0]) (a := B3) (l₂ := [B4])))) (List.Perm.trans (List.Perm.cons _ (List.Perm.cons _ (List.Perm.cons _ (List.Perm.refl _)))) (List.Perm.cons _ (List.Perm.cons _ (List.Perm.cons _ (List.Perm.cons _ (List.Perm.refl _))))))))
theorem pr_5_1_2_3_0_4 (B0 B1 B2 B3 B4 : va_W) : ([B1, B2, B3, B0, B4] ++ []).Perm [B0, B1, B2, B3, B4] := (pm_5_1_2_3_0_4 B0 B1 B2 B3 B4).symm
theorem pm_6_3_5 (B0 B1 B2 B3 B4 B5 : va_W) : [B0, B1, B2, B3, B4, B5].Perm ([B3, B5] ++ [B0, B1, B2, B4]) := List.Perm.trans (List.perm_middle (l₁ := [B0, B1, B2]) (a := B3) (l₂ := [B4, B5])) (List.Perm.cons _ (List.perm_middle (l₁ := [B0, B1, B2, B4]) (a := B5) (l₂ := [])))
theorem pr_6_3_5 (B0 B1 B2 B3 B4 B5 : va_W) : ([B3, B5] ++ [B0, B1, B2, B4]).Perm [B0, B1, B2, B3, B4, B5] := (pm_6_3_5 B0 B1 B2 B3 B4 B5).symm
theorem pm_7_0_1_3_4_5_2_6 (B0 B1 B2 B3 B4 B5 B6 : va_W) : [B0, B1, B2, B3, B4, B5, B6].Perm ([B0, B1, B3, B4, B5, B2, B6] ++ []) := List.Perm.trans (List.Perm.refl _) (List.Perm.trans (List.Perm.cons _ (List.Perm.refl _)) (List.Perm.trans (List.Perm.cons _ (List.Perm.cons _ (List.perm_middle (l₁ := [B2]) (a := B3) (l₂ := [B4, B5, B6])))) (List.Perm.trans (List.Perm.cons _ (List.Perm.cons _ (List.Perm.cons _ (List.perm_middle (l₁ := [B2]) (a := B4) (l₂ := [B5, B6]))))) (List.Perm.trans (List.Perm.cons _ (List.Perm.cons _ (List.Perm.cons _ (List.Perm.cons _ (List.perm_middle (l₁ := [B2]) (a := B5) (l₂ := [B6])))))) (List.Perm.trans (List.Perm.cons _ (List.Perm.cons _ (List.Perm.cons _ (List.Perm.cons _ (List.Perm.cons _ (List.Perm.refl _)))))) (List.Perm.cons _ (List.Perm.cons _ (List.Perm.cons _ (List.Perm.cons _ (List.Perm.cons _ (List.Perm.cons _ (List.Perm.refl _))))))))))))
theorem pr_7_0_1_3_4_5_2_6 (B0 B1 B2 B3 B4 B5 B6 : va_W) : ([B0, B1, B3, B4, B5, B2, B6] ++ []).Perm [B0, B1, B2, B3, B4, B5, B6] := (pm_7_0_1_3_4_5_2_6 B0 B1 B2 B3 B4 B5 B6).symm
theorem pm_7_2_6 (B0 B1 B2 B3 B4 B5 B6 : va_W) : [B0, B1, B2, B3, B4, B5, B6].Perm ([B2, B6] ++ [B0, B1, B3, B4, B5]) := List.Perm.trans (List.perm_middle (l₁ := [B0, B1]) (a := B2) (l₂ := [B3, B4, B5, B6])) (List.Perm.cons _ (List.perm_middle (l₁ := [B0, B1, B3, B4, B5]) (a := B6) (l₂ := [])))
theorem pr_7_2_6 (B0 B1 B2 B3 B4 B5 B6 : va_W) : ([B2, B6] ++ [B0, B1, B3, B4, B5]).Perm [B0, B1, B2, B3, B4, B5, B6] := (pm_7_2_6 B0 B1 B2 B3 B4 B5 B6).symm
set_option maxHeartbeats 4000000 in
set_option maxRecDepth 100000 in
theorem c_X5_dropOldest (l : Launch) (D : va_G) (cA : Nat → ClassId) (q v : Nat) (b tb r m o d : Nat → Nat) (c : Int) (k0 k1 k2 k3 : Nat → Nat) (T0 T1 T2 T3 : Int → Int)  : MV (U := Unit) l yX5_dropOldest cX5_dropOldest 3 none (rmN 1 0 0) D cA [.ref (q)] [prO q v b tb r m o c, [(v, rJ (cA 2) 4 (svV (some (k0 0)) (some (k1 0)) (some (k2 0)) (some (k3 0))))], bk cA k0 T0, bk cA k1 T1, bk cA k2 T2, bk cA k3 T3] (fun _ => True) (fun _ => [prO q v b tb r m o 3, [(v, rJ (cA 2) 4 (svV (some (k1 0)) (some (k2 0)) (some (k3 0)) (some (k0 0))))], bk cA k0 T0, bk cA k1 T1, bk cA k2 T2, bk cA k3 T3]) := by
  refine m_startV pn_X5 rfl (List.forall_mem_cons.mpr ⟨rfl, fun _ h => absurd h List.not_mem_nil⟩) (Nat.le_of_ble_eq_true rfl) ?_
  intro K C e1 e2 e3 hin hR
  subst e1 e2 e3
  show J K 0 0 [prO q v b tb r m o c, [(v, rJ ((kC K) 2) 4 (svV (some (k0 0)) (some (k1 0)) (some (k2 0)) (some (k3 0))))], bk (kC K) k0 T0, bk (kC K) k1 T1, bk (kC K) k2 T2, bk (kC K) k3 T3] [some (.ref (q)), none, none] 0 []
  refine j_aload_n C dX5_dropOldest_0 rfl ?_
  refine j_get C 0 0 5 rfl rfl rfl wU_X5 (by decide) wF_X5_40 rfl dX5_dropOldest_1 ?_
  refine j_iconst C dX5_dropOldest_4 ?_
  refine j_aaldR C 1 0 rfl rfl dX5_dropOldest_5 (by decide) (by omega) (by omega) (by rfl) ?_
  refine j_astn_1 C dX5_dropOldest_6 rfl ?_
  refine j_iconst C dX5_dropOldest_7 ?_
  refine j_istn_2 C dX5_dropOldest_8 rfl ?_
  refine j_iload_n C dX5_dropOldest_9 rfl ?_
  refine j_iconst C dX5_dropOldest_10 ?_
  refine j_icmp_ge (tgt := 34) C dX5_dropOldest_11 (by decide) (by omega) (by omega) (by omega) (by omega) (fun c11 => ?_) (fun c11 => ?_)
  · exfalso; omega
  · refine j_aload_n C dX5_dropOldest_14 rfl ?_
    refine j_get C 0 0 5 rfl rfl rfl wU_X5 (by decide) wF_X5_40 rfl dX5_dropOldest_15 ?_
    refine j_iload_n C dX5_dropOldest_18 rfl ?_
    refine j_iconst C dX5_dropOldest_19 ?_
    refine j_isub C dX5_dropOldest_20 ?_
    refine j_aload_n C dX5_dropOldest_21 rfl ?_
    refine j_get C 0 0 5 rfl rfl rfl wU_X5 (by decide) wF_X5_40 rfl dX5_dropOldest_22 ?_
    refine j_iload_n C dX5_dropOldest_25 rfl ?_
    refine j_aaldR C 1 0 rfl rfl dX5_dropOldest_26 (by decide) (by omega) (by omega) (by rfl) ?_
    refine j_aast_p1 C 0 3 0 rfl rfl rfl rfl dX5_dropOldest_27 (by decide) (by omega) (by omega) ?_
    rw [svV_up0 (by decide)]
    refine j_iinc_2 C dX5_dropOldest_28 rfl ?_
    refine j_goto (tgt := 9) C dX5_dropOldest_31 (by decide) ?_
    refine j_iload_n C dX5_dropOldest_9 rfl ?_
    refine j_iconst C dX5_dropOldest_10 ?_
    refine j_icmp_ge (tgt := 34) C dX5_dropOldest_11 (by decide) (by omega) (by omega) (by omega) (by omega) (fun c11 => ?_) (fun c11 => ?_)
    · exfalso; omega
    · refine j_aload_n C dX5_dropOldest_14 rfl ?_
      refine j_get C 0 0 5 rfl rfl rfl wU_X5 (by decide) wF_X5_40 rfl dX5_dropOldest_15 ?_
      refine j_iload_n C dX5_dropOldest_18 rfl ?_
      refine j_iconst C dX5_dropOldest_19 ?_
      refine j_isub C dX5_dropOldest_20 ?_
      refine j_aload_n C dX5_dropOldest_21 rfl ?_
      refine j_get C 0 0 5 rfl rfl rfl wU_X5 (by decide) wF_X5_40 rfl dX5_dropOldest_22 ?_
      refine j_iload_n C dX5_dropOldest_25 rfl ?_
      refine j_aaldR C 1 0 rfl rfl dX5_dropOldest_26 (by decide) (by omega) (by omega) (by rfl) ?_
      refine j_aast_p1 C 0 4 0 rfl rfl rfl rfl dX5_dropOldest_27 (by decide) (by omega) (by omega) ?_
      rw [svV_up1 (by decide)]
      refine j_iinc_2 C dX5_dropOldest_28 rfl ?_
      refine j_goto (tgt := 9) C dX5_dropOldest_31 (by decide) ?_
      refine j_iload_n C dX5_dropOldest_9 rfl ?_
      refine j_iconst C dX5_dropOldest_10 ?_
      refine j_icmp_ge (tgt := 34) C dX5_dropOldest_11 (by decide) (by omega) (by omega) (by omega) (by omega) (fun c11 => ?_) (fun c11 => ?_)
      · exfalso; omega
      · refine j_aload_n C dX5_dropOldest_14 rfl ?_
        refine j_get C 0 0 5 rfl rfl rfl wU_X5 (by decide) wF_X5_40 rfl dX5_dropOldest_15 ?_
        refine j_iload_n C dX5_dropOldest_18 rfl ?_
        refine j_iconst C dX5_dropOldest_19 ?_
        refine j_isub C dX5_dropOldest_20 ?_
        refine j_aload_n C dX5_dropOldest_21 rfl ?_
        refine j_get C 0 0 5 rfl rfl rfl wU_X5 (by decide) wF_X5_40 rfl dX5_dropOldest_22 ?_
        refine j_iload_n C dX5_dropOldest_25 rfl ?_
        refine j_aaldR C 1 0 rfl rfl dX5_dropOldest_26 (by decide) (by omega) (by omega) (by rfl) ?_
        refine j_aast_p1 C 0 5 0 rfl rfl rfl rfl dX5_dropOldest_27 (by decide) (by omega) (by omega) ?_
        rw [svV_up2 (by decide)]
        refine j_iinc_2 C dX5_dropOldest_28 rfl ?_
        refine j_goto (tgt := 9) C dX5_dropOldest_31 (by decide) ?_
        refine j_iload_n C dX5_dropOldest_9 rfl ?_
        refine j_iconst C dX5_dropOldest_10 ?_
        refine j_icmp_ge (tgt := 34) C dX5_dropOldest_11 (by decide) (by omega) (by omega) (by omega) (by omega) (fun c11 => ?_) (fun c11 => ?_)
        · refine j_aload_n C dX5_dropOldest_34 rfl ?_
          refine j_get C 0 0 5 rfl rfl rfl wU_X5 (by decide) wF_X5_40 rfl dX5_dropOldest_35 ?_
          refine j_iconst C dX5_dropOldest_38 ?_
          refine j_aload_n C dX5_dropOldest_39 rfl ?_
          refine j_aast_p1 C 0 2 0 rfl rfl rfl rfl dX5_dropOldest_40 (by decide) (by omega) (by omega) ?_
          rw [svV_up3 (by decide)]
          refine j_aload_n C dX5_dropOldest_41 rfl ?_
          refine j_iconst C dX5_dropOldest_42 ?_
          refine j_put_p0 C 0 6 rfl prO_put rfl wU_X5 tyX5_ok nmX5 (by decide) wF_X5_262 rfl rfl rfl (Nat.le_of_ble_eq_true rfl) dX5_dropOldest_43 ?_
          exact hR () dX5_dropOldest_46 (by first | trivial | omega | rfl) rfl (Nat.le_of_ble_eq_true rfl) (Nat.le_of_ble_eq_true rfl)
        · exfalso; omega
set_option maxHeartbeats 4000000 in
set_option maxRecDepth 100000 in
theorem c_X5_save_old (l : Launch) (D : va_G) (cA : Nat → ClassId) (q v : Nat) (b tb r m o d : Nat → Nat) (c : Int) (L : List ((Nat → Nat) × (Int → Int))) (S : Int → Int) (L1 L2 : List ((Nat → Nat) × (Int → Int))) (k : Nat → Nat) (T : Int → Int) (hz : Inz S) (hL : L = L1 ++ (k, T) :: L2) (hc : c = ((L1.length : Nat) : Int) ∧ c < 4) : MV (U := List ((Nat → Nat) × (Int → Int))) l yX5_save cX5_save 2 none (rmN 2 9 333) D cA [.ref (q)] [prO q v b tb r m o c, svB cA v L, bk cA b S] (fun u => ∃ (k : Nat → Nat) (T : Int → Int), u = svNx c L (k, cpS T S)) (fun u => [prO q v b tb r m o (if c < 4 then c + 1 else 4), svB cA v u, bk cA b S]) := by
  refine m_startV pn_X5 rfl (List.forall_mem_cons.mpr ⟨rfl, fun _ h => absurd h List.not_mem_nil⟩) (Nat.le_of_ble_eq_true rfl) ?_
  intro K C e1 e2 e3 hin hR
  subst e1 e2 e3
  subst hL
  refine j_flat svB_f ?_
  show J K 0 0 [prO q v b tb r m o c, [(v, rJ ((kC K) 2) 4 (svL (L1 ++ (k, T) :: L2)))], (L1.map (fun p => bk (kC K) p.1 p.2)).flatten, bk (kC K) k T, (L2.map (fun p => bk (kC K) p.1 p.2)).flatten, bk (kC K) b S] [some (.ref (q)), none] 0 []
  refine j_aload_n C dX5_save_0 rfl ?_
  refine j_get C 0 0 6 rfl rfl rfl wU_X5 (by decide) wF_X5_262 rfl dX5_save_1 ?_
  refine j_iconst C dX5_save_4 ?_
  refine j_icmp_lt (tgt := 12) C dX5_save_5 (by decide) (by omega) (by omega) (by omega) (by omega) (fun c5 => ?_) (fun c5 => ?_)
  · refine j_aload_n C dX5_save_12 rfl ?_
    refine j_get C 0 0 5 rfl rfl rfl wU_X5 (by decide) wF_X5_40 rfl dX5_save_13 ?_
    refine j_aload_n C dX5_save_16 rfl ?_
    refine j_get C 0 0 6 rfl rfl rfl wU_X5 (by decide) wF_X5_262 rfl dX5_save_17 ?_
    refine j_aaldR C 1 0 rfl rfl dX5_save_20 (by decide) (by omega) (by omega) (by rw [show c.toNat = L1.length by omega]; exact svL_ap) ?_
    refine j_astn_1 C dX5_save_21 rfl ?_
    refine j_aload_n C dX5_save_22 rfl ?_
    refine j_ifnn (tgt := 44) C dX5_save_23 (by decide) ?_
    refine j_aload_n C dX5_save_44 rfl ?_
    refine j_aload_n C dX5_save_45 rfl ?_
    refine j_get C 0 0 0 rfl rfl rfl wU_X5 (by decide) wF_X5_12 rfl dX5_save_46 ?_
    refine j_perm (pm_6_3_5 _ _ _ _ _ _) ?_
    refine j_callVv C (As := [.ref _]) (c_X0_copyFrom _ _ _ _ _ _ _ (by first | assumption | omega)) 1 nf_X0_copyFrom (jb := 0) rfl rfl wL_X5_216 wI_X0_copyFrom wSe_X0_X0_copyFrom wIn_X0 wC_X0_copyFrom rfl rfl (by decide) dX5_save_49 (Nat.le_of_ble_eq_true rfl) ⟨Nat.le_of_ble_eq_true rfl, Nat.le_of_ble_eq_true rfl⟩ (fun u49 h49 => ?_)
    refine j_perm (pr_6_3_5 _ _ _ _ _ _) ?_
    refine j_aload_n C dX5_save_52 rfl ?_
    refine j_dup C dX5_save_53 rfl ?_
    refine j_get C 0 0 6 rfl rfl rfl wU_X5 (by decide) wF_X5_262 rfl dX5_save_54 ?_
    refine j_iconst C dX5_save_57 ?_
    refine j_iadd C dX5_save_58 ?_
    refine j_put_p0 C 0 6 rfl prO_put rfl wU_X5 tyX5_ok nmX5 (by decide) wF_X5_262 rfl rfl rfl (Nat.le_of_ble_eq_true rfl) dX5_save_59 ?_
    rw [svL_sm (p := (k, T)) (q := (k, cpS T S)) rfl]
    refine j_flat (svB_f (p := (k, cpS T S))).symm ?_
    have hfin : L1 ++ (k, cpS T S) :: L2 = svNx c (L1 ++ (k, T) :: L2) (k, cpS T S) := by
      unfold svNx
      rw [if_pos hc.2, show c.toNat = L1.length by omega, List.take_left, List.drop_append, List.drop_eq_nil_of_le (by omega), show L1.length + 1 - L1.length = 1 by omega]
      rfl
    have hcc : c + 1 = if c < 4 then c + 1 else 4 := (if_pos hc.2).symm
    rw [hcc]
    exact hR (L1 ++ (k, cpS T S) :: L2) dX5_save_62 (by exact ⟨k, T, hfin⟩) rfl (Nat.le_of_ble_eq_true rfl) (Nat.le_of_ble_eq_true rfl)
  · exfalso; omega
set_option maxHeartbeats 4000000 in
set_option maxRecDepth 100000 in
theorem c_X5_save_new (l : Launch) (D : va_G) (cA : Nat → ClassId) (q v : Nat) (b tb r m o d : Nat → Nat) (c : Int) (L : List ((Nat → Nat) × (Int → Int))) (S : Int → Int) (hz : Inz S) (hc : c = ((L.length : Nat) : Int) ∧ c < 4) : MV (U := List ((Nat → Nat) × (Int → Int))) l yX5_save cX5_save 2 none (rmN 2 9 333) D cA [.ref (q)] [prO q v b tb r m o c, svB cA v L, bk cA b S] (fun u => ∃ (k : Nat → Nat) (T : Int → Int), u = svNx c L (k, cpS T S)) (fun u => [prO q v b tb r m o (if c < 4 then c + 1 else 4), svB cA v u, bk cA b S]) := by
  refine m_startV pn_X5 rfl (List.forall_mem_cons.mpr ⟨rfl, fun _ h => absurd h List.not_mem_nil⟩) (Nat.le_of_ble_eq_true rfl) ?_
  intro K C e1 e2 e3 hin hR
  subst e1 e2 e3
  refine j_flat svB_g ?_
  show J K 0 0 [prO q v b tb r m o c, [(v, rJ ((kC K) 2) 4 (svL L))], (L.map (fun p => bk (kC K) p.1 p.2)).flatten, bk (kC K) b S] [some (.ref (q)), none] 0 []
  refine j_aload_n C dX5_save_0 rfl ?_
  refine j_get C 0 0 6 rfl rfl rfl wU_X5 (by decide) wF_X5_262 rfl dX5_save_1 ?_
  refine j_iconst C dX5_save_4 ?_
  refine j_icmp_lt (tgt := 12) C dX5_save_5 (by decide) (by omega) (by omega) (by omega) (by omega) (fun c5 => ?_) (fun c5 => ?_)
  · refine j_aload_n C dX5_save_12 rfl ?_
    refine j_get C 0 0 5 rfl rfl rfl wU_X5 (by decide) wF_X5_40 rfl dX5_save_13 ?_
    refine j_aload_n C dX5_save_16 rfl ?_
    refine j_get C 0 0 6 rfl rfl rfl wU_X5 (by decide) wF_X5_262 rfl dX5_save_17 ?_
    refine j_aaldN C 1 0 rfl rfl dX5_save_20 (by decide) (by omega) (by omega) (by exact svL_no (by omega)) ?_
    refine j_astnN_1 C dX5_save_21 rfl ?_
    refine j_aload_nN C dX5_save_22 rfl ?_
    refine j_ifnnN C dX5_save_23 ?_
    refine j_new C (ci := 0) (fs := [.int 0, .int 0, .int 0, .int 0, .int 0, .null, .null, .null, .null, .null, .null, .null, .null]) (T := TX0) (tt := tyX0) rfl wU_X0 tyX0_ok wK_X5_9 wIb_X0 wIn_X0 (fun j hj => by rcases (show j = 0 ∨ j = 1 ∨ j = 2 ∨ j = 3 ∨ j = 4 ∨ j = 5 ∨ j = 6 ∨ j = 7 ∨ j = 8 ∨ j = 9 ∨ j = 10 ∨ j = 11 ∨ j = 12 by omega) with rfl | rfl | rfl | rfl | rfl | rfl | rfl | rfl | rfl | rfl | rfl | rfl | rfl <;> rfl) (by decide) dX5_save_26 (fun k9 => ?_)
    refine j_dup C dX5_save_29 rfl ?_
    refine j_perm (pm_5_0 _ _ _ _ _) ?_
    refine j_callINv C (As := []) (c_X0_init _ _ _ _ ) 0 nf_X0_init.2 rfl rfl wLN_X5_11 wI_X0_init wIn_X0 wC_X0_init rfl rfl (by decide) dX5_save_30 (Nat.le_of_ble_eq_true rfl) ⟨Nat.le_of_ble_eq_true rfl, Nat.le_of_ble_eq_true rfl⟩ (fun u30 h30 => ?_)
    refine j_perm (ws' := [_, _, _, _, _]) (List.Perm.refl _) ?_
    try subst h30
    refine j_astn_1 C dX5_save_33 rfl ?_
    refine j_aload_n C dX5_save_34 rfl ?_
    refine j_get C 1 0 5 rfl rfl rfl wU_X5 (by decide) wF_X5_40 rfl dX5_save_35 ?_
    refine j_aload_n C dX5_save_38 rfl ?_
    refine j_get C 1 0 6 rfl rfl rfl wU_X5 (by decide) wF_X5_262 rfl dX5_save_39 ?_
    refine j_aload_n C dX5_save_42 rfl ?_
    refine j_aast_p2 C 0 0 0 rfl rfl rfl rfl dX5_save_43 (by decide) (by omega) (by omega) ?_
    refine j_aload_n C dX5_save_44 rfl ?_
    refine j_aload_n C dX5_save_45 rfl ?_
    refine j_get C 1 0 0 rfl rfl rfl wU_X5 (by decide) wF_X5_12 rfl dX5_save_46 ?_
    refine j_perm (pm_5_0_4 _ _ _ _ _) ?_
    refine j_callVv C (As := [.ref _]) (c_X0_copyFrom _ _ _ _ _ _ _ (by first | assumption | omega)) 1 nf_X0_copyFrom (jb := 0) rfl rfl wL_X5_216 wI_X0_copyFrom wSe_X0_X0_copyFrom wIn_X0 wC_X0_copyFrom rfl rfl (by decide) dX5_save_49 (Nat.le_of_ble_eq_true rfl) ⟨Nat.le_of_ble_eq_true rfl, Nat.le_of_ble_eq_true rfl⟩ (fun u49 h49 => ?_)
    refine j_perm (pr_5_0_4 _ _ _ _ _) ?_
    refine j_aload_n C dX5_save_52 rfl ?_
    refine j_dup C dX5_save_53 rfl ?_
    refine j_get C 1 0 6 rfl rfl rfl wU_X5 (by decide) wF_X5_262 rfl dX5_save_54 ?_
    refine j_iconst C dX5_save_57 ?_
    refine j_iadd C dX5_save_58 ?_
    refine j_put_p1 C 0 6 rfl prO_put rfl wU_X5 tyX5_ok nmX5 (by decide) wF_X5_262 rfl rfl rfl (Nat.le_of_ble_eq_true rfl) dX5_save_59 ?_
    rw [svL_nx (p := (u30, cpS iniS S)) (by omega)]
    have hcc : c + 1 = if c < 4 then c + 1 else 4 := (if_pos hc.2).symm
    rw [hcc]
    refine j_perm (pm_5_1_2_3_0_4 _ _ _ _ _) ?_
    refine j_flat (svB_n (p := (u30, cpS iniS S))).symm ?_
    have hfin : L ++ [(u30, cpS iniS S)] = svNx c L (u30, cpS iniS S) := by
      unfold svNx
      rw [if_pos hc.2, List.take_of_length_le (by omega), List.drop_eq_nil_of_le (by omega)]
    exact hR (L ++ [(u30, cpS iniS S)]) dX5_save_62 (by exact ⟨u30, iniS, hfin⟩) rfl (Nat.le_of_ble_eq_true rfl) (Nat.le_of_ble_eq_true rfl)
  · exfalso; omega
set_option maxHeartbeats 4000000 in
set_option maxRecDepth 100000 in
theorem c_X5_save_full (l : Launch) (D : va_G) (cA : Nat → ClassId) (q v : Nat) (b tb r m o d : Nat → Nat) (c : Int) (k0 k1 k2 k3 : Nat → Nat) (T0 T1 T2 T3 S : Int → Int) (hz : Inz S) (hc : c = 4) : MV (U := List ((Nat → Nat) × (Int → Int))) l yX5_save cX5_save 2 none (rmN 2 9 333) D cA [.ref (q)] [prO q v b tb r m o c, svB cA v [(k0, T0), (k1, T1), (k2, T2), (k3, T3)], bk cA b S] (fun u => ∃ (k : Nat → Nat) (T : Int → Int), u = svNx c [(k0, T0), (k1, T1), (k2, T2), (k3, T3)] (k, cpS T S)) (fun u => [prO q v b tb r m o (if c < 4 then c + 1 else 4), svB cA v u, bk cA b S]) := by
  refine m_startV pn_X5 rfl (List.forall_mem_cons.mpr ⟨rfl, fun _ h => absurd h List.not_mem_nil⟩) (Nat.le_of_ble_eq_true rfl) ?_
  intro K C e1 e2 e3 hin hR
  subst e1 e2 e3
  refine j_flat svB_4 ?_
  show J K 0 0 [prO q v b tb r m o c, [(v, rJ ((kC K) 2) 4 (svV (some (k0 0)) (some (k1 0)) (some (k2 0)) (some (k3 0))))], bk (kC K) k0 T0, bk (kC K) k1 T1, bk (kC K) k2 T2, bk (kC K) k3 T3, bk (kC K) b S] [some (.ref (q)), none] 0 []
  refine j_aload_n C dX5_save_0 rfl ?_
  refine j_get C 0 0 6 rfl rfl rfl wU_X5 (by decide) wF_X5_262 rfl dX5_save_1 ?_
  refine j_iconst C dX5_save_4 ?_
  refine j_icmp_lt (tgt := 12) C dX5_save_5 (by decide) (by omega) (by omega) (by omega) (by omega) (fun c5 => ?_) (fun c5 => ?_)
  · exfalso; omega
  · refine j_aload_n C dX5_save_8 rfl ?_
    refine j_perm (pm_7_0_1_2_3_4_5 _ _ _ _ _ _ _) ?_
    refine j_callVv C (As := []) (c_X5_dropOldest _ _ _ _ _ _ _ _ _ _ (d) _ _ _ _ _ _ _ _ _ ) 0 nf_X5_dropOldest (jb := 0) rfl rfl wL_X5_283 wI_X5_dropOldest wSe_X5_X5_dropOldest wIn_X5 wC_X5_dropOldest rfl rfl (by decide) dX5_save_9 (Nat.le_of_ble_eq_true rfl) ⟨Nat.le_of_ble_eq_true rfl, Nat.le_of_ble_eq_true rfl⟩ (fun u9 h9 => ?_)
    refine j_perm (pr_7_0_1_2_3_4_5 _ _ _ _ _ _ _) ?_
    refine j_aload_n C dX5_save_12 rfl ?_
    refine j_get C 0 0 5 rfl rfl rfl wU_X5 (by decide) wF_X5_40 rfl dX5_save_13 ?_
    refine j_aload_n C dX5_save_16 rfl ?_
    refine j_get C 0 0 6 rfl rfl rfl wU_X5 (by decide) wF_X5_262 rfl dX5_save_17 ?_
    refine j_aaldR C 1 0 rfl rfl dX5_save_20 (by decide) (by omega) (by omega) (by rfl) ?_
    refine j_astn_1 C dX5_save_21 rfl ?_
    refine j_aload_n C dX5_save_22 rfl ?_
    refine j_ifnn (tgt := 44) C dX5_save_23 (by decide) ?_
    refine j_aload_n C dX5_save_44 rfl ?_
    refine j_aload_n C dX5_save_45 rfl ?_
    refine j_get C 0 0 0 rfl rfl rfl wU_X5 (by decide) wF_X5_12 rfl dX5_save_46 ?_
    refine j_perm (pm_7_2_6 _ _ _ _ _ _ _) ?_
    refine j_callVv C (As := [.ref _]) (c_X0_copyFrom _ _ _ _ _ _ _ (by first | assumption | omega)) 1 nf_X0_copyFrom (jb := 0) rfl rfl wL_X5_216 wI_X0_copyFrom wSe_X0_X0_copyFrom wIn_X0 wC_X0_copyFrom rfl rfl (by decide) dX5_save_49 (Nat.le_of_ble_eq_true rfl) ⟨Nat.le_of_ble_eq_true rfl, Nat.le_of_ble_eq_true rfl⟩ (fun u49 h49 => ?_)
    refine j_perm (pr_7_2_6 _ _ _ _ _ _ _) ?_
    refine j_aload_n C dX5_save_52 rfl ?_
    refine j_dup C dX5_save_53 rfl ?_
    refine j_get C 0 0 6 rfl rfl rfl wU_X5 (by decide) wF_X5_262 rfl dX5_save_54 ?_
    refine j_iconst C dX5_save_57 ?_
    refine j_iadd C dX5_save_58 ?_
    refine j_put_p0 C 0 6 rfl prO_put rfl wU_X5 tyX5_ok nmX5 (by decide) wF_X5_262 rfl rfl rfl (Nat.le_of_ble_eq_true rfl) dX5_save_59 ?_
    have hcc : (3 : Int) + 1 = if c < 4 then c + 1 else 4 := by rw [if_neg (by omega)]; rfl
    rw [hcc]
    refine j_perm (pm_7_0_1_3_4_5_2_6 _ _ _ _ _ _ _) ?_
    refine j_flat (svB_4b (p0 := (k1, T1)) (p1 := (k2, T2)) (p2 := (k3, T3)) (p3 := (k0, cpS T0 S))).symm ?_
    have hfin : [(k1, T1), (k2, T2), (k3, T3), (k0, cpS T0 S)] = svNx c [(k0, T0), (k1, T1), (k2, T2), (k3, T3)] (k0, cpS T0 S) := by
      unfold svNx
      rw [if_neg (by omega)]
      rfl
    exact hR [(k1, T1), (k2, T2), (k3, T3), (k0, cpS T0 S)] dX5_save_62 (by exact ⟨k0, T0, hfin⟩) rfl (Nat.le_of_ble_eq_true rfl) (Nat.le_of_ble_eq_true rfl)
theorem c_X5_save (l : Launch) (D : va_G) (cA : Nat → ClassId) (q v : Nat) (b tb r m o d : Nat → Nat) (c : Int) (L : List ((Nat → Nat) × (Int → Int))) (S : Int → Int) (hz : Inz S) (hc : 0 ≤ c ∧ c ≤ 4 ∧ c ≤ (L.length : Int) ∧ L.length ≤ 4) : MV (U := List ((Nat → Nat) × (Int → Int))) l yX5_save cX5_save 2 none (rmN 2 9 333) D cA [.ref q] [prO q v b tb r m o c, svB cA v L, bk cA b S] (fun u => ∃ (k : Nat → Nat) (T : Int → Int), u = svNx c L (k, cpS T S)) (fun u => [prO q v b tb r m o (if c < 4 then c + 1 else 4), svB cA v u, bk cA b S]) := by
  by_cases h4 : c = 4
  · match L, hc with
    | [(k0, T0), (k1, T1), (k2, T2), (k3, T3)], _ => exact c_X5_save_full l D cA q v b tb r m o d c k0 k1 k2 k3 T0 T1 T2 T3 S hz h4
    | [], hc => exfalso; simp only [List.length_cons, List.length_nil] at hc; omega
    | [_], hc => exfalso; simp only [List.length_cons, List.length_nil] at hc; omega
    | [_, _], hc => exfalso; simp only [List.length_cons, List.length_nil] at hc; omega
    | [_, _, _], hc => exfalso; simp only [List.length_cons, List.length_nil] at hc; omega
    | _ :: _ :: _ :: _ :: _ :: _, hc => exfalso; simp only [List.length_cons, List.length_nil] at hc; omega
  · by_cases hl : c = (L.length : Int)
    · exact c_X5_save_new l D cA q v b tb r m o d c L S hz ⟨hl, by omega⟩
    · have hlt : c.toNat < L.length := by omega
      have e : L = L.take c.toNat ++ ((L[c.toNat]).1, (L[c.toNat]).2) :: L.drop (c.toNat + 1) := by
        rw [← List.drop_eq_getElem_cons hlt, List.take_append_drop]
      exact c_X5_save_old l D cA q v b tb r m o d c L S _ _ _ _ hz e ⟨by rw [List.length_take]; omega, by omega⟩
