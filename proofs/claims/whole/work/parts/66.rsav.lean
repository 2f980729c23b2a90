/-! the reference: what a ring saves -/
theorem prsA_g0 (h : Int) : ∀ (r : List Int) (k : Nat), k < r.length → (prsA h r).getD k 0 = 7 * r.getD k 0 + (if k + 1 < r.length then r.getD (k + 1) 0 else h)
  | [], k, hk => absurd hk (Nat.not_lt_zero _)
  | [x], 0, _ => rfl
  | [_], k + 1, hk => by simp at hk
  | x :: y :: t, 0, _ => by
    rw [if_pos (by rw [List.length_cons, List.length_cons]; omega)]
    rfl
  | x :: y :: t, k + 1, hk => by
    have := prsA_g0 h (y :: t) k (by rw [List.length_cons] at hk ⊢; simp only [List.length_cons] at hk; omega)
    rw [prsA, List.getD_cons_succ, this]
    simp only [List.length_cons, Nat.add_lt_add_iff_right]
    rfl
theorem sumL_tk {f : Int → Int} : ∀ (l : List Int) (k : Nat), k < l.length → sumL f (l.take (k + 1)) = sumL f (l.take k) + f (l.getD k 0)
  | [], k, hk => absurd hk (Nat.not_lt_zero _)
  | x :: t, 0, _ => by
    show f x + 0 = 0 + f x
    omega
  | x :: t, k + 1, hk => by
    have := sumL_tk (f := f) t k (by rw [List.length_cons] at hk; omega)
    rw [List.take_succ_cons, List.take_succ_cons, sumL, sumL, this, List.getD_cons_succ]
    omega
theorem pm_3_0_2 (B0 B1 B2 : va_W) : [B0, B1, B2].Perm ([B0, B2] ++ [B1]) := List.Perm.trans (List.Perm.refl _) (List.Perm.cons _ (List.perm_middle (l₁ := [B1]) (a := B2) (l₂ := [])))
theorem pr_3_0_2 (B0 B1 B2 : va_W) : ([B0, B2] ++ [B1]).Perm [B0, B1, B2] := (pm_3_0_2 B0 B1 B2).symm
set_option maxHeartbeats 4000000 in
set_option maxRecDepth 100000 in
theorem c_X6_savingBy (l : Launch) (D : va_G) (cA : Nat → ClassId) (a : Nat → Nat) (G R B1 : Int → Int) (BQ : Int → Int → Int) (r : List Int) (amt : Int) (hG : G 4 = (r.length : Int)) (hR0 : RWS R r) (hr : r.length ≤ 7 ∧ ∀ y ∈ r, 0 ≤ y ∧ y < 7) (hB : ∀ q k : Int, 0 ≤ q → q < 49 → 0 ≤ k → k < 10 → B1 (10 * q + k) = BQ q k) (hBb : ∀ q k : Int, 0 ≤ BQ q k ∧ BQ q k ≤ 40000) (ha : 0 ≤ amt ∧ amt ≤ 40000) : MI (U := Unit) l yX6_savingBy cX6_savingBy 4 (some .int) (rmN 3 0 0) D cA [.ref (a 0), .int (iI amt)] [mO a G, [(a 7, aJ (cA 0) 8 R)], [(a 6, aJ (cA 0) 490 B1)]] (fun x _ => x = sumL (fun q => gcR (BQ q) 9 amt) (prs r)) (fun _ => [mO a G, [(a 7, aJ (cA 0) 8 R)], [(a 6, aJ (cA 0) 490 B1)]]) := by
  refine m_startI pn_X6 rfl (List.forall_mem_cons.mpr ⟨rfl, List.forall_mem_cons.mpr ⟨rfl, fun _ h => absurd h List.not_mem_nil⟩⟩) (Nat.le_of_ble_eq_true rfl) ?_
  intro K C e1 e2 e3 hin hR
  subst e1 e2 e3
  show J K 0 0 [mO a G, [(a 7, aJ ((kC K) 0) 8 R)], [(a 6, aJ ((kC K) 0) 490 B1)]] [some (.ref (a 0)), some (.int (iI amt)), none, none] 0 []
  refine j_iconst C dX6_savingBy_0 ?_
  refine j_istn_2 C dX6_savingBy_1 rfl ?_
  refine j_iconst C dX6_savingBy_2 ?_
  refine j_istn_3 C dX6_savingBy_3 rfl ?_
  have L4 : ∀ (fuel : Nat) (y k : Int) (hk : 0 ≤ k ∧ k ≤ (r.length : Int)) (hy : y = sumL (fun q => gcR (BQ q) 9 amt) ((prs r).take k.toNat)) (hyb : 0 ≤ y ∧ y ≤ 360000 * k) (hf4 : (7 - k).toNat < fuel), J K 0 0 [mO a G, [(a 7, aJ ((kC K) 0) 8 R)], [(a 6, aJ ((kC K) 0) 490 B1)]] [some (.ref (a 0)), some (.int (iI amt)), some (.int (iI y)), some (.int (iI k))] 4 [] := by
    intro fuel
    induction fuel with
    | zero => intro y k hk hy hyb hf4; exact absurd hf4 (Nat.not_lt_zero _)
    | succ fuel ih4 =>
      intro y k hk hy hyb hf4
      refine j_iload_n C dX6_savingBy_4 rfl ?_
      refine j_aload_n C dX6_savingBy_5 rfl ?_
      refine j_get C 0 0 12 rfl rfl rfl wU_X6 (by decide) wF_X6_86 rfl dX6_savingBy_6 ?_
      refine j_icmp_ge (tgt := 41) C dX6_savingBy_9 (by decide) (by omega) (by omega) (by omega) (by omega) (fun c9 => ?_) (fun c9 => ?_)
      · refine j_iload_n C dX6_savingBy_41 rfl ?_
        refine hR () dX6_savingBy_42 ?_ rfl (Nat.le_of_ble_eq_true rfl) (Nat.le_of_ble_eq_true rfl)
        rw [hy, List.take_of_length_le (by rw [prs_len]; omega)]
      · have hRk := hR0 k hk.1 (by omega)
        have hb0 := hr.2 _ (getD_mem (l := r) (z := 0) (k := k.toNat) (by omega))
        have hpk0 := prsA_g0 (r.headD 0) r k.toNat (by omega)
        refine j_iload_n C dX6_savingBy_12 rfl ?_
        refine j_aload_n C dX6_savingBy_13 rfl ?_
        refine j_bipush C dX6_savingBy_14 (by decide) ?_
        refine j_aload_n C dX6_savingBy_16 rfl ?_
        refine j_get C 0 0 10 rfl rfl rfl wU_X6 (by decide) wF_X6_28 rfl dX6_savingBy_17 ?_
        refine j_iload_n C dX6_savingBy_20 rfl ?_
        refine j_iald C 1 0 rfl rfl dX6_savingBy_21 (by decide) (by omega) (by omega) ?_
        refine j_imul C dX6_savingBy_22 ?_
        refine j_aload_n C dX6_savingBy_23 rfl ?_
        refine j_iload_n C dX6_savingBy_24 rfl ?_
        refine j_perm (pm_3_0_1 _ _ _) ?_
        refine j_callVi C (As := [.int (iI _)]) (c_X6_follower _ _ _ _ _ _ _ _ (by first | assumption | omega) (by first | assumption | omega) (by first | assumption | omega) (by first | assumption | omega)) 1 nf_X6_follower (jb := 0) rfl rfl wL_X6_107 wI_X6_follower wSe_X6_X6_follower wIn_X6 wC_X6_follower rfl rfl (by decide) dX6_savingBy_25 (Nat.le_of_ble_eq_true rfl) ⟨Nat.le_of_ble_eq_true rfl, Nat.le_of_ble_eq_true rfl⟩ (fun x25 u25 h25 => ?_)
        refine j_perm (pr_3_0_1 _ _ _) ?_
        have hxb : 0 ≤ x25 ∧ x25 < 7 := by
          rw [h25]
          split
          · exact hr.2 _ (getD_mem (l := r) (z := 0) (k := (k + 1).toNat) (by omega))
          · cases r with
            | nil => simp only [List.length_nil] at hG; omega
            | cons w t => exact hr.2 w List.mem_cons_self
        have hpk : (prs r).getD k.toNat 0 = 7 * R k + x25 := by
          unfold prs
          rw [hpk0, hRk, h25]
          by_cases c : k + 1 < (r.length : Int)
          · rw [if_pos c, if_pos (by omega), show (k + 1).toNat = k.toNat + 1 by omega]
          · rw [if_neg c, if_neg (by omega)]
        refine j_iadd C dX6_savingBy_28 ?_
        refine j_iload_n C dX6_savingBy_29 rfl ?_
        refine j_perm (pm_3_0_2 _ _ _) ?_
        refine j_callVi C (As := [.int (iI _), .int (iI _)]) (c_X6_costBy _ _ _ _ _ _ (BQ (7 * R k + x25)) _ _ (by first | assumption | omega) (by exact fun j j0 j1 => hB _ j (by omega) (by omega) j0 j1) (by exact fun j => hBb _ j) (by first | assumption | omega)) 2 nf_X6_costBy (jb := 0) rfl rfl wL_X6_111 wI_X6_costBy wSe_X6_X6_costBy wIn_X6 wC_X6_costBy rfl rfl (by decide) dX6_savingBy_30 (Nat.le_of_ble_eq_true rfl) ⟨Nat.le_of_ble_eq_true rfl, Nat.le_of_ble_eq_true rfl⟩ (fun x30 u30 h30 => ?_)
        refine j_perm (pr_3_0_2 _ _ _) ?_
        have hgb := gcR_bd (B := BQ (7 * R k + x25)) 9 amt ha.1 (fun j => (hBb _ j).1)
        refine j_iadd C dX6_savingBy_33 ?_
        refine j_istn_2 C dX6_savingBy_34 rfl ?_
        refine j_iinc_3 C dX6_savingBy_35 rfl ?_
        refine j_goto (tgt := 4) C dX6_savingBy_38 (by decide) ?_
        exact ih4 _ _ (by omega) (by rw [show (k + 1).toNat = k.toNat + 1 by omega, sumL_tk _ _ (by rw [prs_len]; omega), ← hy, hpk, h30]) (by omega) (by omega)
  exact L4 _ _ _ (by omega) (by rfl) (by omega) (Nat.lt_succ_self _)
