/-! the reference: what a release makes the cost less by -/
theorem gcR_s {B : Int → Int} {k left : Int} (hk : 0 < k) : gcR B k.toNat left = min left (B k) * k + gcR B (k - 1).toNat (left - min left (B k)) := by
  rw [show k.toNat = (k - 1).toNat + 1 by omega, gcR, show (((k - 1).toNat : Nat) : Int) + 1 = k by omega]
set_option maxHeartbeats 4000000 in
set_option maxRecDepth 100000 in
theorem c_X6_costBy (l : Launch) (D : va_G) (cA : Nat → ClassId) (a : Nat → Nat) (G B1 B : Int → Int) (q amt : Int) (hq : 0 ≤ q ∧ q < 49) (hB : ∀ k : Int, 0 ≤ k → k < 10 → B1 (10 * q + k) = B k) (hBb : ∀ k : Int, 0 ≤ B k ∧ B k ≤ 40000) (ha : 0 ≤ amt ∧ amt ≤ 40000) : MI (U := Unit) l yX6_costBy cX6_costBy 7 (some .int) (rmN 2 0 0) D cA [.ref (a 0), .int (iI q), .int (iI amt)] [mO a G, [(a 6, aJ (cA 0) 490 B1)]] (fun x _ => x = gcR B 9 amt) (fun _ => [mO a G, [(a 6, aJ (cA 0) 490 B1)]]) := by
  refine m_startI pn_X6 rfl (List.forall_mem_cons.mpr ⟨rfl, List.forall_mem_cons.mpr ⟨rfl, List.forall_mem_cons.mpr ⟨rfl, fun _ h => absurd h List.not_mem_nil⟩⟩⟩) (Nat.le_of_ble_eq_true rfl) ?_
  intro K C e1 e2 e3 hin hR
  subst e1 e2 e3
  show J K 0 0 [mO a G, [(a 6, aJ ((kC K) 0) 490 B1)]] [some (.ref (a 0)), some (.int (iI q)), some (.int (iI amt)), none, none, none, none] 0 []
  refine j_iload_n C dX6_costBy_0 rfl ?_
  refine j_istn_3 C dX6_costBy_1 rfl ?_
  refine j_iconst C dX6_costBy_2 ?_
  refine j_ist_4 C dX6_costBy_3 rfl ?_
  refine j_bipush C dX6_costBy_5 (by decide) ?_
  refine j_ist_5 C dX6_costBy_7 rfl ?_
  have L9 : ∀ (fuel : Nat) (left cost k : Int) (hk : 0 ≤ k ∧ k ≤ 9) (hl : 0 ≤ left ∧ left ≤ 40000) (hc : 0 ≤ cost ∧ cost ≤ (9 - k) * 360000) (hs : cost + gcR B k.toNat left = gcR B 9 amt) (hf9 : k.toNat < fuel), J K 0 0 [mO a G, [(a 6, aJ ((kC K) 0) 490 B1)]] [some (.ref (a 0)), some (.int (iI q)), some (.int (iI amt)), some (.int (iI left)), some (.int (iI cost)), some (.int (iI k)), none] 9 [] := by
    intro fuel
    induction fuel with
    | zero => intro left cost k hk hl hc hs hf9; exact absurd hf9 (Nat.not_lt_zero _)
    | succ fuel ih9 =>
      intro left cost k hk hl hc hs hf9
      refine j_iload C dX6_costBy_9 rfl ?_
      refine j_if_le (tgt := 53) C dX6_costBy_11 (by decide) (by omega) (by omega) (fun c11 => ?_) (fun c11 => ?_)
      · refine j_iload C dX6_costBy_53 rfl ?_
        exact hR () dX6_costBy_55 (by rw [show k = 0 by omega] at hs; rw [← hs]; exact (Int.add_zero _).symm) rfl (Nat.le_of_ble_eq_true rfl) (Nat.le_of_ble_eq_true rfl)
      · have hBk := hB k hk.1 (by omega)
        have hbk := hBb k
        refine j_iload_n C dX6_costBy_14 rfl ?_
        refine j_aload_n C dX6_costBy_15 rfl ?_
        refine j_get C 0 0 8 rfl rfl rfl wU_X6 (by decide) wF_X6_25 rfl dX6_costBy_16 ?_
        refine j_bipush C dX6_costBy_19 (by decide) ?_
        refine j_iload_n C dX6_costBy_21 rfl ?_
        refine j_imul C dX6_costBy_22 ?_
        refine j_iload C dX6_costBy_23 rfl ?_
        refine j_iadd C dX6_costBy_25 ?_
        refine j_iald C 1 0 rfl rfl dX6_costBy_26 (by decide) (by omega) (by omega) ?_
        refine j_perm (pm_2 _ _) ?_
        refine j_callSi C (As := [.int (iI _), .int (iI _)]) (c_X6_least _ _ _ _ _ (by first | assumption | omega) (by first | assumption | omega)) 2 nf_X6_least.2 wL_X6_104 wS_X6_least wIn_X6 wC_X6_least rfl rfl (by decide) dX6_costBy_27 (Nat.le_of_ble_eq_true rfl) ⟨Nat.le_of_ble_eq_true rfl, Nat.le_of_ble_eq_true rfl⟩ (fun x27 u27 h27 => ?_)
        refine j_perm (pr_2 _ _) ?_
        have hm : x27 = min left (B k) := by rw [← hBk]; exact h27
        have hmb : 0 ≤ x27 * k ∧ x27 * k ≤ 360000 := ⟨Int.mul_nonneg (by omega) hk.1, by have := Int.mul_le_mul (a := x27) (b := k) (c := 40000) (d := 9) (by omega) hk.2 hk.1 (by omega); omega⟩
        refine j_ist_6 C dX6_costBy_30 rfl ?_
        refine j_iload_n C dX6_costBy_32 rfl ?_
        refine j_iload C dX6_costBy_33 rfl ?_
        refine j_isub C dX6_costBy_35 ?_
        refine j_istn_3 C dX6_costBy_36 rfl ?_
        refine j_iload C dX6_costBy_37 rfl ?_
        refine j_iload C dX6_costBy_39 rfl ?_
        refine j_iload C dX6_costBy_41 rfl ?_
        refine j_imul C dX6_costBy_43 ?_
        refine j_iadd C dX6_costBy_44 ?_
        refine j_ist_4 C dX6_costBy_45 rfl ?_
        refine j_iinc_5 C dX6_costBy_47 rfl ?_
        refine j_goto (tgt := 9) C dX6_costBy_50 (by decide) ?_
        exact j_lle (lv' := [_, _, _, _, _, _, none]) ⟨Or.inr rfl, ⟨Or.inr rfl, ⟨Or.inr rfl, ⟨Or.inr rfl, ⟨Or.inr rfl, ⟨Or.inr rfl, ⟨Or.inl rfl, trivial⟩⟩⟩⟩⟩⟩⟩ (ih9 _ _ _ (by omega) (by omega) (by omega) (by rw [← hs, gcR_s (show 0 < k by omega), show k + -1 = k - 1 by omega, ← hm]; omega) (by omega))
  exact L9 _ _ _ _ (by omega) (by omega) (by omega) (by exact Int.zero_add _) (Nat.lt_succ_self _)
