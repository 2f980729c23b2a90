/-! the rings: made; rings through a debt -/
theorem rgO_ini {q q1 q2 q3 : Nat} : ([(q, .inr (4, [.ref q1, .ref q2, .ref q3, .int 0]))] : va_W) = rgO (ad9 q q2 q3 0 0 0 0 0 0) q1 0 := by
  unfold rgO
  rw [← iI_zero]
  rfl
def Thr (S th : Int → Int) : Prop := ∀ q : Int, 0 ≤ q → q < 49 → th q = thr q (RS S)
theorem thr_drop {q : Int} {L : List (List Int)} {k : Nat} (hk : k < L.length) : thr q (L.drop k) = (if q ∈ prs (L.getD k []) then 1 else 0) + thr q (L.drop (k + 1)) := by
  rw [List.drop_eq_getElem_cons hk, thr, List.getD_eq_getElem?_getD, List.getElem?_eq_getElem hk]
  rfl
theorem mem_drop {q : Int} {l : List Int} {k : Nat} (hn : l.Nodup) (hk : k < l.length) : (if q ∈ l.drop k then (1 : Int) else 0) = (if q = l.getD k (-1) then 1 else 0) + (if q ∈ l.drop (k + 1) then 1 else 0) := by
  have hd := List.drop_eq_getElem_cons hk
  have h2 := hn.sublist (List.drop_sublist k l)
  have e : l.getD k (-1) = l[k] := by rw [List.getD_eq_getElem?_getD, List.getElem?_eq_getElem hk]; rfl
  rw [hd, List.nodup_cons] at h2
  rw [hd, e]
  by_cases a : q = l[k]
  · rw [if_pos (by rw [a]; exact List.mem_cons_self), if_pos a, if_neg (by rw [a]; exact h2.1)]
    rfl
  · by_cases b : q ∈ l.drop (k + 1)
    · rw [if_pos (List.mem_cons_of_mem _ b), if_neg a, if_pos b]
      rfl
    · rw [if_neg (fun z => (List.mem_cons.mp z).elim a b), if_neg a, if_neg b]
      rfl
theorem pm_2_0 (B0 B1 : va_W) : [B0, B1].Perm ([B0] ++ [B1]) := List.Perm.refl _
theorem pr_2_0 (B0 B1 : va_W) : ([B0] ++ [B1]).Perm [B0, B1] := (pm_2_0 B0 B1).symm
theorem pm_3 (B0 B1 B2 : va_W) : [B0, B1, B2].Perm ([] ++ [B0, B1, B2]) := List.Perm.refl _
theorem pr_3 (B0 B1 B2 : va_W) : ([] ++ [B0, B1, B2]).Perm [B0, B1, B2] := (pm_3 B0 B1 B2).symm
theorem pm_3_0_1 (B0 B1 B2 : va_W) : [B0, B1, B2].Perm ([B0, B1] ++ [B2]) := List.Perm.trans (List.Perm.refl _) (List.Perm.cons _ (List.Perm.refl _))
theorem pr_3_0_1 (B0 B1 B2 : va_W) : ([B0, B1] ++ [B2]).Perm [B0, B1, B2] := (pm_3_0_1 B0 B1 B2).symm
theorem pm_7_1_2_3_4 (B0 B1 B2 B3 B4 B5 B6 : va_W) : [B0, B1, B2, B3, B4, B5, B6].Perm ([B1, B2, B3, B4] ++ [B0, B5, B6]) := List.Perm.trans (List.perm_middle (l₁ := [B0]) (a := B1) (l₂ := [B2, B3, B4, B5, B6])) (List.Perm.trans (List.Perm.cons _ (List.perm_middle (l₁ := [B0]) (a := B2) (l₂ := [B3, B4, B5, B6]))) (List.Perm.trans (List.Perm.cons _ (List.Perm.cons _ (List.perm_middle (l₁ := [B0]) (a := B3) (l₂ := [B4, B5, B6])))) (List.Perm.cons _ (List.Perm.cons _ (List.Perm.cons _ (List.perm_middle (l₁ := [B0]) (a := B4) (l₂ := [B5, B6])))))))
theorem pr_7_1_2_3_4 (B0 B1 B2 B3 B4 B5 B6 : va_W) : ([B1, B2, B3, B4] ++ [B0, B5, B6]).Perm [B0, B1, B2, B3, B4, B5, B6] := (pm_7_1_2_3_4 B0 B1 B2 B3 B4 B5 B6).symm
theorem pm_7_6 (B0 B1 B2 B3 B4 B5 B6 : va_W) : [B0, B1, B2, B3, B4, B5, B6].Perm ([B6] ++ [B0, B1, B2, B3, B4, B5]) := List.perm_middle (l₁ := [B0, B1, B2, B3, B4, B5]) (a := B6) (l₂ := [])
theorem pr_7_6 (B0 B1 B2 B3 B4 B5 B6 : va_W) : ([B6] ++ [B0, B1, B2, B3, B4, B5]).Perm [B0, B1, B2, B3, B4, B5, B6] := (pm_7_6 B0 B1 B2 B3 B4 B5 B6).symm
theorem pm_7_6_2_3_4_5_1_0 (B0 B1 B2 B3 B4 B5 B6 : va_W) : [B0, B1, B2, B3, B4, B5, B6].Perm ([B6, B2, B3, B4, B5, B1, B0] ++ []) := List.Perm.trans (List.perm_middle (l₁ := [B0, B1, B2, B3, B4, B5]) (a := B6) (l₂ := [])) (List.Perm.trans (List.Perm.cons _ (List.perm_middle (l₁ := [B0, B1]) (a := B2) (l₂ := [B3, B4, B5]))) (List.Perm.trans (List.Perm.cons _ (List.Perm.cons _ (List.perm_middle (l₁ := [B0, B1]) (a := B3) (l₂ := [B4, B5])))) (List.Perm.trans (List.Perm.cons _ (List.Perm.cons _ (List.Perm.cons _ (List.perm_middle (l₁ := [B0, B1]) (a := B4) (l₂ := [B5]))))) (List.Perm.trans (List.Perm.cons _ (List.Perm.cons _ (List.Perm.cons _ (List.Perm.cons _ (List.perm_middle (l₁ := [B0, B1]) (a := B5) (l₂ := [])))))) (List.Perm.trans (List.Perm.cons _ (List.Perm.cons _ (List.Perm.cons _ (List.Perm.cons _ (List.Perm.cons _ (List.perm_middle (l₁ := [B0]) (a := B1) (l₂ := []))))))) (List.Perm.cons _ (List.Perm.cons _ (List.Perm.cons _ (List.Perm.cons _ (List.Perm.cons _ (List.Perm.cons _ (List.Perm.refl _))))))))))))
theorem pr_7_6_2_3_4_5_1_0 (B0 B1 B2 B3 B4 B5 B6 : va_W) : ([B6, B2, B3, B4, B5, B1, B0] ++ []).Perm [B0, B1, B2, B3, B4, B5, B6] := (pm_7_6_2_3_4_5_1_0 B0 B1 B2 B3 B4 B5 B6).symm
set_option maxHeartbeats 4000000 in
set_option maxRecDepth 100000 in
theorem c_X4_init (l : Launch) (D : va_G) (cA : Nat → ClassId) (q : Nat)  : MV (U := (Nat → Nat) × (Nat → Nat)) l yX4_init cX4_init 1 none (rmN 2 6 2555) D cA [.ref (q)] [[(q, .inr (4, [.null, .null, .null, .int 0]))]] (fun u => u.1 0 = q) (fun u => [rgO u.1 (u.2 0) 0, dbO u.2, [(u.2 1, aJ (cA 0) 49 (fun _ => 0))], [(u.2 2, aJ (cA 0) 49 (fun _ => 0))], [(u.2 3, aJ (cA 0) 40 (fun _ => 0))], [(u.1 1, aJ (cA 0) 2365 (fun _ => 0))], [(u.1 2, aJ (cA 0) 49 (fun _ => 0))]]) := by
  refine m_startV pn_X4 rfl (List.forall_mem_cons.mpr ⟨rfl, fun _ h => absurd h List.not_mem_nil⟩) (Nat.le_of_ble_eq_true rfl) ?_
  intro K C e1 e2 e3 hin hR
  subst e1 e2 e3
  show J K 0 0 [[(q, .inr (4, [.null, .null, .null, .int 0]))]] [some (.ref (q))] 0 []
  refine j_aload_n C dX4_init_0 rfl ?_
  refine j_objInit C rfl wL_X4_5 dX4_init_1 ⟨by decide, Nat.le_of_ble_eq_true rfl⟩ ?_
  refine j_aload_n C dX4_init_4 rfl ?_
  refine j_new C (ci := 1) (fs := [.null, .null, .null]) (T := TX1) (tt := tyX1) rfl wU_X1 tyX1_ok wK_X4_11 wIb_X1 wIn_X1 (fun j hj => by rcases (show j = 0 ∨ j = 1 ∨ j = 2 by omega) with rfl | rfl | rfl <;> rfl) (by decide) dX4_init_5 (fun q1 => ?_)
  refine j_dup C dX4_init_8 rfl ?_
  refine j_perm (pm_2_0 _ _) ?_
  refine j_callINv C (As := []) (c_X1_init _ _ _ _ ) 0 nf_X1_init.2 rfl rfl wLN_X4_13 wI_X1_init wIn_X1 wC_X1_init rfl rfl (by decide) dX4_init_9 (Nat.le_of_ble_eq_true rfl) ⟨Nat.le_of_ble_eq_true rfl, Nat.le_of_ble_eq_true rfl⟩ (fun u9 h9 => ?_)
  refine j_perm (ws' := [_, _, _, _, _]) (List.Perm.refl _) ?_
  refine j_putF_p4 C hin 0 0 (B' := [(q, .inr (4, [.ref q1, .null, .null, .int 0]))]) rfl rfl rfl wU_X4 tyX4_ok nmX4 (by decide) wF_X4_14 rfl rfl rfl rfl (Nat.le_of_ble_eq_true rfl) dX4_init_12 ?_
  refine j_aload_n C dX4_init_15 rfl ?_
  refine j_sipush C dX4_init_16 (by decide) ?_
  refine j_newi C 2365 (by decide) (by decide) wA__int (by decide) dX4_init_19 (fun q2 => ?_)
  refine j_putF_p5 C hin 0 1 (B' := [(q, .inr (4, [.ref q1, .ref q2, .null, .int 0]))]) rfl rfl rfl wU_X4 tyX4_ok nmX4 (by decide) wF_X4_18 rfl rfl rfl rfl (Nat.le_of_ble_eq_true rfl) dX4_init_21 ?_
  refine j_aload_n C dX4_init_24 rfl ?_
  refine j_bipush C dX4_init_25 (by decide) ?_
  refine j_newi C 49 (by decide) (by decide) wA__int (by decide) dX4_init_27 (fun q3 => ?_)
  refine j_putF_p6 C hin 0 2 (B' := [(q, .inr (4, [.ref q1, .ref q2, .ref q3, .int 0]))]) rfl rfl rfl wU_X4 tyX4_ok nmX4 (by decide) wF_X4_22 rfl rfl rfl rfl (Nat.le_of_ble_eq_true rfl) dX4_init_29 ?_
  refine j_perm (pm_7_6_2_3_4_5_1_0 _ _ _ _ _ _ _) ?_
  rw [rgO_ini, ← h9]
  exact hR (ad9 q q2 q3 0 0 0 0 0 0, u9) dX4_init_32 (by rfl) rfl (Nat.le_of_ble_eq_true rfl) (Nat.le_of_ble_eq_true rfl)
set_option maxHeartbeats 4000000 in
set_option maxRecDepth 100000 in
theorem c_X4_countThrough (l : Launch) (D : va_G) (cA : Nat → ClassId) (r d : Nat → Nat) (z : Int) (f th S : Int → Int) (hI : Inv S) (hF : Rws f z (RS S)) : MV (U := Int → Int) l yX4_countThrough cX4_countThrough 5 none (rmN 4 0 0) D cA [.ref (r 0)] [rgO r (d 0) z, [(r 1, aJ (cA 0) 2365 f)], [(r 2, aJ (cA 0) 49 th)]] (fun u => Thr S u) (fun u => [rgO r (d 0) z, [(r 1, aJ (cA 0) 2365 f)], [(r 2, aJ (cA 0) 49 u)]]) := by
  refine m_startV pn_X4 rfl (List.forall_mem_cons.mpr ⟨rfl, fun _ h => absurd h List.not_mem_nil⟩) (Nat.le_of_ble_eq_true rfl) ?_
  intro K C e1 e2 e3 hin hR
  subst e1 e2 e3
  have hz := hF.1
  have hlen := RS_len hI
  show J K 0 0 [rgO r (d 0) z, [(r 1, aJ ((kC K) 0) 2365 f)], [(r 2, aJ ((kC K) 0) 49 th)]] [some (.ref (r 0)), none, none, none, none] 0 []
  refine j_iconst C dX4_countThrough_0 ?_
  refine j_istn_1 C dX4_countThrough_1 rfl ?_
  have L2 : ∀ (fuel : Nat) (i : Int) (t1 : Int → Int) (hi : 0 ≤ i ∧ i ≤ 49) (ht : ∀ q : Int, 0 ≤ q → q < i → t1 q = 0) (hf2 : (49 - i).toNat < fuel), J K 0 0 [rgO r (d 0) z, [(r 1, aJ ((kC K) 0) 2365 f)], [(r 2, aJ ((kC K) 0) 49 t1)]] [some (.ref (r 0)), some (.int (iI i)), none, none, none] 2 [] := by
    intro fuel
    induction fuel with
    | zero => intro i t1 hi ht hf2; exact absurd hf2 (Nat.not_lt_zero _)
    | succ fuel ih2 =>
      intro i t1 hi ht hf2
      refine j_iload_n C dX4_countThrough_2 rfl ?_
      refine j_bipush C dX4_countThrough_3 (by decide) ?_
      refine j_icmp_ge (tgt := 21) C dX4_countThrough_5 (by decide) (by omega) (by omega) (by omega) (by omega) (fun c5 => ?_) (fun c5 => ?_)
      · refine j_iconst C dX4_countThrough_21 ?_
        refine j_istn_1 C dX4_countThrough_22 rfl ?_
        have L23 : ∀ (fuel : Nat) (i : Int) (t2 : Int → Int) (hi : 0 ≤ i ∧ i ≤ z) (ht2 : ∀ q : Int, 0 ≤ q → q < 49 → t2 q + thr q ((RS S).drop i.toNat) = thr q (RS S)) (hf23 : (z - i).toNat < fuel), J K 0 0 [rgO r (d 0) z, [(r 1, aJ ((kC K) 0) 2365 f)], [(r 2, aJ ((kC K) 0) 49 t2)]] [some (.ref (r 0)), some (.int (iI i)), none, none, none] 23 [] := by
          intro fuel
          induction fuel with
          | zero => intro i t2 hi ht2 hf23; exact absurd hf23 (Nat.not_lt_zero _)
          | succ fuel ih23 =>
            intro i t2 hi ht2 hf23
            refine j_iload_n C dX4_countThrough_23 rfl ?_
            refine j_aload_n C dX4_countThrough_24 rfl ?_
            refine j_get C 0 0 3 rfl rfl rfl wU_X4 (by decide) wF_X4_29 rfl dX4_countThrough_25 ?_
            refine j_icmp_ge (tgt := 83) C dX4_countThrough_28 (by decide) (by omega) (by omega) (by omega) (by omega) (fun c28 => ?_) (fun c28 => ?_)
            · refine hR t2 dX4_countThrough_83 ?_ rfl (Nat.le_of_ble_eq_true rfl) (Nat.le_of_ble_eq_true rfl)
              intro q a b
              have := ht2 q a b
              rw [drop_out (by omega)] at this
              show t2 q = _
              simp only [thr] at this
              omega
            · refine j_aload_n C dX4_countThrough_31 rfl ?_
              refine j_iload_n C dX4_countThrough_32 rfl ?_
              refine j_perm (pm_3_0_1 _ _ _) ?_
              refine j_callVi C (As := [.int (iI _)]) (c_X4_rowAt _ _ _ _ _ _ _ _ (by first | assumption | omega) (by omega)) 1 nf_X4_rowAt (jb := 0) rfl rfl wL_X4_54 wI_X4_rowAt wSe_X4_X4_rowAt wIn_X4 wC_X4_rowAt rfl rfl (by decide) dX4_countThrough_33 (Nat.le_of_ble_eq_true rfl) ⟨Nat.le_of_ble_eq_true rfl, Nat.le_of_ble_eq_true rfl⟩ (fun x33 u33 h33 => ?_)
              refine j_perm (pr_3_0_1 _ _ _) ?_
              have hpr := RS_get (S := S) (i := i) hi.1 (by omega)
              have hrep := hF.2 i hi.1 (by omega)
              have hps := prs_len ((RS S).getD i.toNat [])
              have hpl := hpr.1.2.1
              have hpi := prs_in hpr.1
              have hnd := prs_nd hpr.1
              obtain ⟨Rr, hRr⟩ : ∃ z, z = (RS S).getD i.toNat [] := ⟨_, rfl⟩
              rw [← hRr] at hpr hrep hps hpl hpi hnd
              have hrw := h33
              refine j_istn_2 C dX4_countThrough_36 rfl ?_
              refine j_iconst C dX4_countThrough_37 ?_
              refine j_istn_3 C dX4_countThrough_38 rfl ?_
              have L39 : ∀ (fuel : Nat) (k : Int) (t3 : Int → Int) (hk : 0 ≤ k ∧ k ≤ 7) (ht3 : ∀ q : Int, 0 ≤ q → q < 49 → t3 q + (if q ∈ (prs Rr).drop k.toNat then 1 else 0) + thr q ((RS S).drop (i.toNat + 1)) = thr q (RS S)) (hf39 : (7 - k).toNat < fuel), J K 0 0 [rgO r (d 0) z, [(r 1, aJ ((kC K) 0) 2365 f)], [(r 2, aJ ((kC K) 0) 49 t3)]] [some (.ref (r 0)), some (.int (iI i)), some (.int (iI x33)), some (.int (iI k)), none] 39 [] := by
                intro fuel
                induction fuel with
                | zero => intro k t3 hk ht3 hf39; exact absurd hf39 (Nat.not_lt_zero _)
                | succ fuel ih39 =>
                  intro k t3 hk ht3 hf39
                  refine j_iload_n C dX4_countThrough_39 rfl ?_
                  refine j_bipush C dX4_countThrough_40 (by decide) ?_
                  refine j_icmp_ge (tgt := 77) C dX4_countThrough_42 (by decide) (by omega) (by omega) (by omega) (by omega) (fun c42 => ?_) (fun c42 => ?_)
                  · refine j_iinc_1 C dX4_countThrough_77 rfl ?_
                    refine j_goto (tgt := 23) C dX4_countThrough_80 (by decide) ?_
                    exact j_lle (lv' := [_, _, none, none, none]) ⟨Or.inr rfl, ⟨Or.inr rfl, ⟨Or.inl rfl, ⟨Or.inl rfl, ⟨Or.inl rfl, trivial⟩⟩⟩⟩⟩ (ih23 _ _ (by omega) (by intro q a b; rw [show (i + 1).toNat = i.toNat + 1 by omega]; have := ht3 q a b; rw [drop_out (show (prs Rr).length ≤ k.toNat by omega), if_neg List.not_mem_nil] at this; omega) (by omega))
                  · refine j_iload_n C dX4_countThrough_45 rfl ?_
                    refine j_iload_n C dX4_countThrough_46 rfl ?_
                    refine j_perm (pm_3 _ _ _) ?_
                    refine j_callSi C (As := [.int (iI _), .int (iI _)]) (c_X4_pairIn _ _ _ _ _ (Rr) (by rw [hrw]; exact hrep) (by exact hpr.1) (by first | assumption | omega)) 2 nf_X4_pairIn.2 wL_X4_57 wS_X4_pairIn wIn_X4 wC_X4_pairIn rfl rfl (by decide) dX4_countThrough_47 (Nat.le_of_ble_eq_true rfl) ⟨Nat.le_of_ble_eq_true rfl, Nat.le_of_ble_eq_true rfl⟩ (fun x47 u47 h47 => ?_)
                    refine j_perm (pr_3 _ _ _) ?_
                    have hb47 : -1 ≤ x47 ∧ x47 < 49 := by rw [h47]; by_cases q : (k).toNat < (prs Rr).length; (have := hpi _ (getD_mem (z := -1) q); omega); (rw [getD_out (by omega)]; omega)
                    refine j_ist_4 C dX4_countThrough_50 rfl ?_
                    refine j_iload C dX4_countThrough_52 rfl ?_
                    refine j_perm (pm_3 _ _ _) ?_
                    refine j_callSNi C (As := [.int (iI _)]) (c_X5_isPair _ _ _ _ (by first | assumption | omega)) 1 nf_X5_isPair.2 wLN_X4_94 wS_X5_isPair wIn_X5 wC_X5_isPair rfl rfl (by decide) dX4_countThrough_54 (Nat.le_of_ble_eq_true rfl) ⟨Nat.le_of_ble_eq_true rfl, Nat.le_of_ble_eq_true rfl⟩ (fun x54 u54 h54 => ?_)
                    refine j_perm (pr_3 _ _ _) ?_
                    refine j_if_eq (tgt := 71) C dX4_countThrough_57 (by decide) (by omega) (by omega) (fun c57 => ?_) (fun c57 => ?_)
                    · refine j_iinc_3 C dX4_countThrough_71 rfl ?_
                      refine j_goto (tgt := 39) C dX4_countThrough_74 (by decide) ?_
                      exact j_lle (lv' := [_, _, _, _, none]) ⟨Or.inr rfl, ⟨Or.inr rfl, ⟨Or.inr rfl, ⟨Or.inr rfl, ⟨Or.inl rfl, trivial⟩⟩⟩⟩⟩ (ih39 _ _ (by omega) (by intro q a b; have := ht3 q a b; subst h54; rcases Nat.lt_or_ge k.toNat (prs Rr).length with hkl | hko; (rw [mem_drop hnd hkl] at this; rw [show (k + 1).toNat = k.toNat + 1 by omega]; have hpk := hpi _ (getD_mem (z := -1) hkl); first | (exfalso; rw [if_pos (by omega)] at c57; omega) | (by_cases e : q = x47; (subst e; rw [st_s]; rw [if_pos h47] at this; omega); (rw [st_n e]; rw [if_neg (by omega)] at this; omega))); (rw [drop_out hko, if_neg List.not_mem_nil] at this; rw [drop_out (show (prs Rr).length ≤ (k + 1).toNat by omega), if_neg List.not_mem_nil]; have hx := getD_out (r := prs Rr) (z := -1) hko; first | omega | (exfalso; rw [if_neg (by omega)] at c57; omega))) (by omega))
                    · have hp49 : 0 ≤ x47 ∧ x47 < 49 := by (rw [h54] at c57; split at c57 <;> omega)
                      refine j_aload_n C dX4_countThrough_60 rfl ?_
                      refine j_get C 0 0 2 rfl rfl rfl wU_X4 (by decide) wF_X4_22 rfl dX4_countThrough_61 ?_
                      refine j_iload C dX4_countThrough_64 rfl ?_
                      refine j_dup2 C dX4_countThrough_66 rfl rfl ?_
                      refine j_iald C 2 0 rfl rfl dX4_countThrough_67 (by decide) (by omega) (by omega) ?_
                      refine j_iconst C dX4_countThrough_68 ?_
                      refine j_iadd C dX4_countThrough_69 ?_
                      refine j_iast_p2 C 0 rfl ar1_ast dX4_countThrough_70 (by decide) (by omega) (by omega) ?_
                      refine j_iinc_3 C dX4_countThrough_71 rfl ?_
                      refine j_goto (tgt := 39) C dX4_countThrough_74 (by decide) ?_
                      exact j_lle (lv' := [_, _, _, _, none]) ⟨Or.inr rfl, ⟨Or.inr rfl, ⟨Or.inr rfl, ⟨Or.inr rfl, ⟨Or.inl rfl, trivial⟩⟩⟩⟩⟩ (ih39 _ _ (by omega) (by intro q a b; have := ht3 q a b; subst h54; rcases Nat.lt_or_ge k.toNat (prs Rr).length with hkl | hko; (rw [mem_drop hnd hkl] at this; rw [show (k + 1).toNat = k.toNat + 1 by omega]; have hpk := hpi _ (getD_mem (z := -1) hkl); first | (exfalso; rw [if_pos (by omega)] at c57; omega) | (by_cases e : q = x47; (subst e; rw [st_s]; rw [if_pos h47] at this; omega); (rw [st_n e]; rw [if_neg (by omega)] at this; omega))); (rw [drop_out hko, if_neg List.not_mem_nil] at this; rw [drop_out (show (prs Rr).length ≤ (k + 1).toNat by omega), if_neg List.not_mem_nil]; have hx := getD_out (r := prs Rr) (z := -1) hko; first | omega | (exfalso; rw [if_neg (by omega)] at c57; omega))) (by omega))
              exact L39 _ _ _ (by omega) (by intro q a b; have := ht2 q a b; rw [thr_drop (show i.toNat < (RS S).length by omega), ← hRr] at this; rw [show (0 : Int).toNat = 0 from rfl, List.drop_zero]; omega) (Nat.lt_succ_self _)
        exact L23 _ _ _ (by omega) (by intro q a b; rw [ht q a (by omega)]; exact Int.zero_add _) (Nat.lt_succ_self _)
      · refine j_aload_n C dX4_countThrough_8 rfl ?_
        refine j_get C 0 0 2 rfl rfl rfl wU_X4 (by decide) wF_X4_22 rfl dX4_countThrough_9 ?_
        refine j_iload_n C dX4_countThrough_12 rfl ?_
        refine j_iconst C dX4_countThrough_13 ?_
        refine j_iast_p2 C 0 rfl ar1_ast dX4_countThrough_14 (by decide) (by omega) (by omega) ?_
        refine j_iinc_1 C dX4_countThrough_15 rfl ?_
        refine j_goto (tgt := 2) C dX4_countThrough_18 (by decide) ?_
        exact ih2 _ _ (by omega) (by intro q a b; by_cases e : q = i; (subst e; exact st_s _ _ _); (rw [st_n e]; exact ht q a (by omega))) (by omega)
  exact L2 _ _ _ (by omega) (by intro q a b; omega) (Nat.lt_succ_self _)
set_option maxHeartbeats 4000000 in
set_option maxRecDepth 100000 in
theorem c_X4_sizeWithout (l : Launch) (D : va_G) (cA : Nat → ClassId) (r d b : Nat → Nat) (z : Int) (X F Nx th S : Int → Int) (p : Int) (hI : Inv S) (hF : Db S X F Nx) (hz : z = (((RS S).length : Nat) : Int)) (hT : Thr S th) (hp : 0 ≤ p ∧ p < S 1) : MI (U := Unit) l yX4_sizeWithout cX4_sizeWithout 5 (some .int) (rmN 3 0 0) D cA [.ref (r 0), .ref (b 0), .int (iI p)] [rgO r (d 0) z, dbO d, [(d 1, aJ (cA 0) 49 X)], [(d 2, aJ (cA 0) 49 F)], [(d 3, aJ (cA 0) 40 Nx)], [(r 2, aJ (cA 0) 49 th)], bk cA b S] (fun x _ => x = rwO S p) (fun _ => [rgO r (d 0) z, dbO d, [(d 1, aJ (cA 0) 49 X)], [(d 2, aJ (cA 0) 49 F)], [(d 3, aJ (cA 0) 40 Nx)], [(r 2, aJ (cA 0) 49 th)], bk cA b S]) := by
  refine m_startI pn_X4 rfl (List.forall_mem_cons.mpr ⟨rfl, List.forall_mem_cons.mpr ⟨rfl, List.forall_mem_cons.mpr ⟨rfl, fun _ h => absurd h List.not_mem_nil⟩⟩⟩) (Nat.le_of_ble_eq_true rfl) ?_
  intro K C e1 e2 e3 hin hR
  subst e1 e2 e3
  have hN := hI.2.1
  have f := hI.2.2 p hp.1 hp.2
  have g := hI.1
  show J K 0 0 [rgO r (d 0) z, dbO d, [(d 1, aJ ((kC K) 0) 49 X)], [(d 2, aJ ((kC K) 0) 49 F)], [(d 3, aJ ((kC K) 0) 40 Nx)], [(r 2, aJ ((kC K) 0) 49 th)], bk (kC K) b S] [some (.ref (r 0)), some (.ref (b 0)), some (.int (iI p)), none, none] 0 []
  refine j_aload_n C dX4_sizeWithout_0 rfl ?_
  refine j_iload_n C dX4_sizeWithout_1 rfl ?_
  refine j_perm (pm_7_6 _ _ _ _ _ _ _) ?_
  refine j_callVi C (As := [.int (iI _)]) (c_X0_holds _ _ _ _ _ _ (by first | assumption | omega) (by first | assumption | omega)) 1 nf_X0_holds (jb := 0) rfl rfl wL_X4_98 wI_X0_holds wSe_X0_X0_holds wIn_X0 wC_X0_holds rfl rfl (by decide) dX4_sizeWithout_2 (Nat.le_of_ble_eq_true rfl) ⟨Nat.le_of_ble_eq_true rfl, Nat.le_of_ble_eq_true rfl⟩ (fun x2 u2 h2 => ?_)
  refine j_perm (pr_7_6 _ _ _ _ _ _ _) ?_
  rw [if_pos hp] at h2
  refine j_if_eq (tgt := 16) C dX4_sizeWithout_5 (by decide) (by omega) (by omega) (fun c5 => ?_) (fun c5 => ?_)
  · exfalso; omega
  · refine j_aload_n C dX4_sizeWithout_8 rfl ?_
    refine j_iload_n C dX4_sizeWithout_9 rfl ?_
    refine j_perm (pm_7_6 _ _ _ _ _ _ _) ?_
    refine j_callVi C (As := [.int (iI _)]) (c_X0_isOwing _ _ _ _ _ _ (by first | assumption | omega) (by first | assumption | omega)) 1 nf_X0_isOwing (jb := 0) rfl rfl wL_X4_101 wI_X0_isOwing wSe_X0_X0_isOwing wIn_X0 wC_X0_isOwing rfl rfl (by decide) dX4_sizeWithout_10 (Nat.le_of_ble_eq_true rfl) ⟨Nat.le_of_ble_eq_true rfl, Nat.le_of_ble_eq_true rfl⟩ (fun x10 u10 h10 => ?_)
    refine j_perm (pr_7_6 _ _ _ _ _ _ _) ?_
    refine j_if_ne (tgt := 21) C dX4_sizeWithout_13 (by decide) (by omega) (by omega) (fun c13 => ?_) (fun c13 => ?_)
    · have how : 0 < am S p ∧ di S p = 0 := by (rw [h10] at c13; split at c13 <;> omega)
      have hle := am_le_dQ hI hp.1 hp.2 how.2
      refine j_aload_n C dX4_sizeWithout_21 rfl ?_
      refine j_iload_n C dX4_sizeWithout_22 rfl ?_
      refine j_perm (pm_7_6 _ _ _ _ _ _ _) ?_
      refine j_callVi C (As := [.int (iI _)]) (c_X0_pairOf _ _ _ _ _ _ (by first | assumption | omega) (by first | assumption | omega)) 1 nf_X0_pairOf (jb := 0) rfl rfl wL_X4_104 wI_X0_pairOf wSe_X0_X0_pairOf wIn_X0 wC_X0_pairOf rfl rfl (by decide) dX4_sizeWithout_23 (Nat.le_of_ble_eq_true rfl) ⟨Nat.le_of_ble_eq_true rfl, Nat.le_of_ble_eq_true rfl⟩ (fun x23 u23 h23 => ?_)
      refine j_perm (pr_7_6 _ _ _ _ _ _ _) ?_
      refine j_istn_3 C dX4_sizeWithout_26 rfl ?_
      refine j_aload_n C dX4_sizeWithout_27 rfl ?_
      refine j_get C 0 0 0 rfl rfl rfl wU_X4 (by decide) wF_X4_14 rfl dX4_sizeWithout_28 ?_
      refine j_iload_n C dX4_sizeWithout_31 rfl ?_
      refine j_perm (pm_7_1_2_3_4 _ _ _ _ _ _ _) ?_
      refine j_callVi C (As := [.int (iI _)]) (c_X1_sumOf _ _ _ _ _ _ _ _ (by first | assumption | omega)) 1 nf_X1_sumOf (jb := 0) rfl rfl wL_X4_46 wI_X1_sumOf wSe_X1_X1_sumOf wIn_X1 wC_X1_sumOf rfl rfl (by decide) dX4_sizeWithout_32 (Nat.le_of_ble_eq_true rfl) ⟨Nat.le_of_ble_eq_true rfl, Nat.le_of_ble_eq_true rfl⟩ (fun x32 u32 h32 => ?_)
      refine j_perm (pr_7_1_2_3_4 _ _ _ _ _ _ _) ?_
      rw [if_pos (by omega), h23, Db_sum hI hF (by omega) (by omega)] at h32
      have hdb := dQ_bd hI (fr S p * 7 + tO S p)
      refine j_aload_n C dX4_sizeWithout_35 rfl ?_
      refine j_getN C 6 0 7 rfl rfl rfl wU_X0 (by decide) wFN_X4_107 rfl dX4_sizeWithout_36 ?_
      refine j_iload_n C dX4_sizeWithout_39 rfl ?_
      refine j_iald C 6 3 rfl rfl dX4_sizeWithout_40 (by decide) (by omega) (by omega) ?_
      have L49 : ∀ (y : Int) (hy : y = if x32 = am S p then 1 else 0), J K 0 0 [rgO r (d 0) z, dbO d, [(d 1, aJ ((kC K) 0) 49 X)], [(d 2, aJ ((kC K) 0) 49 F)], [(d 3, aJ ((kC K) 0) 40 Nx)], [(r 2, aJ ((kC K) 0) 49 th)], bk (kC K) b S] [some (.ref (r 0)), some (.ref (b 0)), some (.int (iI p)), some (.int (iI x23)), none] 49 [.int (iI y)] := by
        intro y hy
        refine j_ist_4 C dX4_sizeWithout_49 rfl ?_
        refine j_iload C dX4_sizeWithout_51 rfl ?_
        refine j_if_eq (tgt := 77) C dX4_sizeWithout_53 (by decide) (by (split at hy <;> omega)) (by (split at hy <;> omega)) (fun c53 => ?_) (fun c53 => ?_)
        · refine j_aload_n C dX4_sizeWithout_77 rfl ?_
          refine j_get C 0 0 3 rfl rfl rfl wU_X4 (by decide) wF_X4_29 rfl dX4_sizeWithout_78 ?_
          refine hR () dX4_sizeWithout_81 ?_ rfl (Nat.le_of_ble_eq_true rfl) (Nat.le_of_ble_eq_true rfl)
          first | (show z - th x23 = _; rw [h23, hT _ (by omega) (by omega), hz]; exact (rwO_alone hp.1 hp.2 how.2 (by split at hy <;> omega)).symm) | (show z = _; rw [hz]; exact (rwO_more hI hp.1 hp.2 (by split at hy <;> omega)).symm)
        · refine j_iload_n C dX4_sizeWithout_56 rfl ?_
          refine j_perm (pm_7 _ _ _ _ _ _ _) ?_
          refine j_callSNi C (As := [.int (iI _)]) (c_X5_isPair _ _ _ _ (by first | assumption | omega)) 1 nf_X5_isPair.2 wLN_X4_94 wS_X5_isPair wIn_X5 wC_X5_isPair rfl rfl (by decide) dX4_sizeWithout_57 (Nat.le_of_ble_eq_true rfl) ⟨Nat.le_of_ble_eq_true rfl, Nat.le_of_ble_eq_true rfl⟩ (fun x57 u57 h57 => ?_)
          refine j_perm (pr_7 _ _ _ _ _ _ _) ?_
          subst h57
          refine j_if_eq (tgt := 77) C dX4_sizeWithout_60 (by decide) (by omega) (by omega) (fun c60 => ?_) (fun c60 => ?_)
          · exfalso; rw [if_pos (by omega)] at c60; omega
          · refine j_aload_n C dX4_sizeWithout_63 rfl ?_
            refine j_get C 0 0 3 rfl rfl rfl wU_X4 (by decide) wF_X4_29 rfl dX4_sizeWithout_64 ?_
            refine j_aload_n C dX4_sizeWithout_67 rfl ?_
            refine j_get C 0 0 2 rfl rfl rfl wU_X4 (by decide) wF_X4_22 rfl dX4_sizeWithout_68 ?_
            refine j_iload_n C dX4_sizeWithout_71 rfl ?_
            refine j_iald C 5 0 rfl rfl dX4_sizeWithout_72 (by decide) (by omega) (by omega) ?_
            refine j_isub C dX4_sizeWithout_73 ?_
            refine j_goto (tgt := 81) C dX4_sizeWithout_74 (by decide) ?_
            refine hR () dX4_sizeWithout_81 ?_ rfl (Nat.le_of_ble_eq_true rfl) (Nat.le_of_ble_eq_true rfl)
            first | (show z - th x23 = _; rw [h23, hT _ (by omega) (by omega), hz]; exact (rwO_alone hp.1 hp.2 how.2 (by split at hy <;> omega)).symm) | (show z = _; rw [hz]; exact (rwO_more hI hp.1 hp.2 (by split at hy <;> omega)).symm)
      refine j_icmp_ne (tgt := 48) C dX4_sizeWithout_41 (by decide) (by omega) (by omega) (by omega) (by omega) (fun c41 => ?_) (fun c41 => ?_)
      · refine j_iconst C dX4_sizeWithout_48 ?_
        exact L49 _ (by first | (rw [if_pos (by omega)]; done) | (rw [if_neg (by omega)]))
      · refine j_iconst C dX4_sizeWithout_44 ?_
        refine j_goto (tgt := 49) C dX4_sizeWithout_45 (by decide) ?_
        exact L49 _ (by first | (rw [if_pos (by omega)]; done) | (rw [if_neg (by omega)]))
    · have e16 : rwO S p = z := by rw [hz]; exact rwO_no hp.1 hp.2 (by intro q; rw [if_pos q] at h10; omega) hI
      refine j_aload_n C dX4_sizeWithout_16 rfl ?_
      refine j_get C 0 0 3 rfl rfl rfl wU_X4 (by decide) wF_X4_29 rfl dX4_sizeWithout_17 ?_
      refine hR () dX4_sizeWithout_20 ?_ rfl (Nat.le_of_ble_eq_true rfl) (Nat.le_of_ble_eq_true rfl)
      show z = _
      omega
