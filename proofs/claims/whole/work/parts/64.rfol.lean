/-! the reference: who follows in a row -/
set_option maxHeartbeats 4000000 in
set_option maxRecDepth 100000 in
theorem c_X6_follower (l : Launch) (D : va_G) (cA : Nat → ClassId) (a : Nat → Nat) (G R : Int → Int) (r : List Int) (k : Int) (hG : G 4 = (r.length : Int)) (hR0 : RWS R r) (hr : r.length ≤ 7 ∧ ∀ y ∈ r, 0 ≤ y ∧ y < 7) (hk : 0 ≤ k ∧ k < (r.length : Int)) : MI (U := Unit) l yX6_follower cX6_follower 2 (some .int) (rmN 1 0 0) D cA [.ref (a 0), .int (iI k)] [mO a G, [(a 7, aJ (cA 0) 8 R)]] (fun x _ => x = if k + 1 < (r.length : Int) then r.getD (k + 1).toNat 0 else r.headD 0) (fun _ => [mO a G, [(a 7, aJ (cA 0) 8 R)]]) := by
  refine m_startI pn_X6 rfl (List.forall_mem_cons.mpr ⟨rfl, List.forall_mem_cons.mpr ⟨rfl, fun _ h => absurd h List.not_mem_nil⟩⟩) (Nat.le_of_ble_eq_true rfl) ?_
  intro K C e1 e2 e3 hin hR
  subst e1 e2 e3
  have hne : r ≠ [] := fun q => by rw [q] at hk; simp only [List.length_nil] at hk; omega
  have h0 := RWS_head hR0 hne
  show J K 0 0 [mO a G, [(a 7, aJ ((kC K) 0) 8 R)]] [some (.ref (a 0)), some (.int (iI k))] 0 []
  refine j_iload_n C dX6_follower_0 rfl ?_
  refine j_iconst C dX6_follower_1 ?_
  refine j_iadd C dX6_follower_2 ?_
  refine j_aload_n C dX6_follower_3 rfl ?_
  refine j_get C 0 0 12 rfl rfl rfl wU_X6 (by decide) wF_X6_86 rfl dX6_follower_4 ?_
  refine j_icmp_ge (tgt := 21) C dX6_follower_7 (by decide) (by omega) (by omega) (by omega) (by omega) (fun c7 => ?_) (fun c7 => ?_)
  · refine j_aload_n C dX6_follower_21 rfl ?_
    refine j_get C 0 0 10 rfl rfl rfl wU_X6 (by decide) wF_X6_28 rfl dX6_follower_22 ?_
    refine j_iconst C dX6_follower_25 ?_
    refine j_iald C 1 0 rfl rfl dX6_follower_26 (by decide) (by omega) (by omega) ?_
    exact hR () dX6_follower_27 (by first | (rw [if_pos (by omega)]; exact hR0 _ (by omega) (by omega)) | (rw [if_neg (by omega)]; exact h0)) rfl (Nat.le_of_ble_eq_true rfl) (Nat.le_of_ble_eq_true rfl)
  · refine j_aload_n C dX6_follower_10 rfl ?_
    refine j_get C 0 0 10 rfl rfl rfl wU_X6 (by decide) wF_X6_28 rfl dX6_follower_11 ?_
    refine j_iload_n C dX6_follower_14 rfl ?_
    refine j_iconst C dX6_follower_15 ?_
    refine j_iadd C dX6_follower_16 ?_
    refine j_iald C 1 0 rfl rfl dX6_follower_17 (by decide) (by omega) (by omega) ?_
    refine j_goto (tgt := 27) C dX6_follower_18 (by decide) ?_
    exact hR () dX6_follower_27 (by first | (rw [if_pos (by omega)]; exact hR0 _ (by omega) (by omega)) | (rw [if_neg (by omega)]; exact h0)) rfl (Nat.le_of_ble_eq_true rfl) (Nat.le_of_ble_eq_true rfl)
