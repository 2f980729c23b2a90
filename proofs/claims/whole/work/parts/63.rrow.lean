/-! the reference: rows -/
def RWS (R : Int → Int) (r : List Int) : Prop := ∀ k : Int, 0 ≤ k → k < (r.length : Int) → R k = r.getD k.toNat 0
theorem nin_take {r : List Int} {p : Int} {k : Nat} (h : p ∉ r.take k) (hk : k < r.length) (hp : r.getD k 0 ≠ p) : p ∉ r.take (k + 1) := by
  rw [List.take_succ, List.getElem?_eq_getElem hk]
  intro q
  rcases List.mem_append.mp q with q | q
  · exact h q
  · have : p = r[k] := by simpa using q
    apply hp
    rw [List.getD_eq_getElem?_getD, List.getElem?_eq_getElem hk, this]
    rfl
theorem RWS_head {R : Int → Int} {r : List Int} (h : RWS R r) (hr : r ≠ []) : R 0 = r.headD 0 := by
  cases r with
  | nil => exact absurd rfl hr
  | cons x t => exact h 0 (Int.le_refl _) (by rw [List.length_cons]; omega)
theorem RWS_last {R : Int → Int} {r : List Int} (h : RWS R r) (hr : r ≠ []) : R ((r.length : Int) - 1) = r.getLastD 0 := by
  have hl : 0 < r.length := List.length_pos_iff.mpr hr
  rw [h _ (by omega) (by omega), show ((r.length : Int) - 1).toNat = r.length - 1 by omega]
  rw [List.getLastD_eq_getLast?, List.getLast?_eq_getElem?, List.getD_eq_getElem?_getD]
set_option maxHeartbeats 4000000 in
set_option maxRecDepth 100000 in
theorem c_X6_isInRow (l : Launch) (D : va_G) (cA : Nat → ClassId) (a : Nat → Nat) (G R : Int → Int) (r : List Int) (p : Int) (hG : G 4 = (r.length : Int)) (hR0 : RWS R r) (hr : r.length ≤ 7 ∧ ∀ y ∈ r, 0 ≤ y ∧ y < 7) (hp : -2147483648 ≤ p ∧ p < 2147483648) : MI (U := Unit) l yX6_isInRow cX6_isInRow 3 (some .boolean) (rmN 1 0 0) D cA [.ref (a 0), .int (iI p)] [mO a G, [(a 7, aJ (cA 0) 8 R)]] (fun x _ => x = if p ∈ r then 1 else 0) (fun _ => [mO a G, [(a 7, aJ (cA 0) 8 R)]]) := by
  refine m_startZ pn_X6 rfl (List.forall_mem_cons.mpr ⟨rfl, List.forall_mem_cons.mpr ⟨rfl, fun _ h => absurd h List.not_mem_nil⟩⟩) (Nat.le_of_ble_eq_true rfl) ?_
  intro K C e1 e2 e3 hin hR
  subst e1 e2 e3
  show J K 0 0 [mO a G, [(a 7, aJ ((kC K) 0) 8 R)]] [some (.ref (a 0)), some (.int (iI p)), none] 0 []
  refine j_iconst C dX6_isInRow_0 ?_
  refine j_istn_2 C dX6_isInRow_1 rfl ?_
  have L2 : ∀ (fuel : Nat) (i : Int) (hi : 0 ≤ i ∧ i ≤ (r.length : Int)) (hn : p ∉ r.take i.toNat) (hf2 : (7 - i).toNat < fuel), J K 0 0 [mO a G, [(a 7, aJ ((kC K) 0) 8 R)]] [some (.ref (a 0)), some (.int (iI p)), some (.int (iI i))] 2 [] := by
    intro fuel
    induction fuel with
    | zero => intro i hi hn hf2; exact absurd hf2 (Nat.not_lt_zero _)
    | succ fuel ih2 =>
      intro i hi hn hf2
      refine j_iload_n C dX6_isInRow_2 rfl ?_
      refine j_aload_n C dX6_isInRow_3 rfl ?_
      refine j_get C 0 0 12 rfl rfl rfl wU_X6 (by decide) wF_X6_86 rfl dX6_isInRow_4 ?_
      refine j_icmp_ge (tgt := 28) C dX6_isInRow_7 (by decide) (by omega) (by omega) (by omega) (by omega) (fun c7 => ?_) (fun c7 => ?_)
      · refine j_iconst C dX6_isInRow_28 ?_
        refine hR () dX6_isInRow_29 (by omega) ?_ rfl (Nat.le_of_ble_eq_true rfl) (Nat.le_of_ble_eq_true rfl)
        rw [List.take_of_length_le (by omega)] at hn
        rw [if_neg hn]
      · have hRi := hR0 i hi.1 (by omega)
        have hRm := getD_mem (l := r) (z := 0) (k := i.toNat) (by omega)
        have hRb := hr.2 _ hRm
        refine j_aload_n C dX6_isInRow_10 rfl ?_
        refine j_get C 0 0 10 rfl rfl rfl wU_X6 (by decide) wF_X6_28 rfl dX6_isInRow_11 ?_
        refine j_iload_n C dX6_isInRow_14 rfl ?_
        refine j_iald C 1 0 rfl rfl dX6_isInRow_15 (by decide) (by omega) (by omega) ?_
        refine j_iload_n C dX6_isInRow_16 rfl ?_
        refine j_icmp_ne (tgt := 22) C dX6_isInRow_17 (by decide) (by omega) (by omega) (by omega) (by omega) (fun c17 => ?_) (fun c17 => ?_)
        · refine j_iinc_2 C dX6_isInRow_22 rfl ?_
          refine j_goto (tgt := 2) C dX6_isInRow_25 (by decide) ?_
          exact ih2 _ (by omega) (by rw [show (i + 1).toNat = i.toNat + 1 by omega]; exact nin_take hn (by omega) (by omega)) (by omega)
        · refine j_iconst C dX6_isInRow_20 ?_
          refine hR () dX6_isInRow_21 (by omega) ?_ rfl (Nat.le_of_ble_eq_true rfl) (Nat.le_of_ble_eq_true rfl)
          have hin2 : p ∈ r := by rw [← c17, hRi]; exact hRm
          rw [if_pos hin2]
  exact L2 _ _ (by omega) (by exact List.not_mem_nil) (Nat.lt_succ_self _)
set_option maxHeartbeats 4000000 in
set_option maxRecDepth 100000 in
theorem c_X6_canCome (l : Launch) (D : va_G) (cA : Nat → ClassId) (a : Nat → Nat) (G R D1 : Int → Int) (r : List Int) (p : Int) (hG : G 4 = (r.length : Int)) (hR0 : RWS R r) (hr : r.length ≤ 7 ∧ ∀ y ∈ r, 0 ≤ y ∧ y < 7) (hp : 0 ≤ p ∧ p < 7) (hD : ∀ q : Int, 0 ≤ q → q < 49 → 0 ≤ D1 q ∧ D1 q ≤ 40000) : MI (U := Unit) l yX6_canCome cX6_canCome 2 (some .boolean) (rmN 2 0 0) D cA [.ref (a 0), .int (iI p)] [mO a G, [(a 7, aJ (cA 0) 8 R)], [(a 5, aJ (cA 0) 49 D1)]] (fun x _ => x = if r = [] ∨ okE D1 r p = true then 1 else 0) (fun _ => [mO a G, [(a 7, aJ (cA 0) 8 R)], [(a 5, aJ (cA 0) 49 D1)]]) := by
  refine m_startZ pn_X6 rfl (List.forall_mem_cons.mpr ⟨rfl, List.forall_mem_cons.mpr ⟨rfl, fun _ h => absurd h List.not_mem_nil⟩⟩) (Nat.le_of_ble_eq_true rfl) ?_
  intro K C e1 e2 e3 hin hR
  subst e1 e2 e3
  show J K 0 0 [mO a G, [(a 7, aJ ((kC K) 0) 8 R)], [(a 5, aJ ((kC K) 0) 49 D1)]] [some (.ref (a 0)), some (.int (iI p))] 0 []
  refine j_aload_n C dX6_canCome_0 rfl ?_
  refine j_get C 0 0 12 rfl rfl rfl wU_X6 (by decide) wF_X6_86 rfl dX6_canCome_1 ?_
  refine j_if_eq (tgt := 49) C dX6_canCome_4 (by decide) (by omega) (by omega) (fun c4 => ?_) (fun c4 => ?_)
  · have hyes : r = [] ∨ okE D1 r p = true := by
      first
      | (right; unfold okE; rw [decide_eq_true_eq, ← h0, ← h1]; refine ⟨by omega, ?_, by omega⟩; rw [h19] at c22; split at c22; (omega); assumption)
      | (left; exact List.length_eq_zero_iff.mp (by omega))
    refine j_iconst C dX6_canCome_49 ?_
    refine j_goto (tgt := 54) C dX6_canCome_50 (by decide) ?_
    exact hR () dX6_canCome_54 (by omega) (by first | (rw [if_pos hyes]; done) | (rw [if_neg hno]; done)) rfl (Nat.le_of_ble_eq_true rfl) (Nat.le_of_ble_eq_true rfl)
  · have hne : r ≠ [] := fun q => by rw [q] at hG; exact c4 (by rw [hG]; rfl)
    have hl : 0 < r.length := List.length_pos_iff.mpr hne
    have h0 := RWS_head hR0 hne
    have h1 := RWS_last hR0 hne
    have hb0 := hr.2 _ (getD_mem (l := r) (z := 0) (k := 0) hl)
    have hb1 := hr.2 _ (getD_mem (l := r) (z := 0) (k := r.length - 1) (by omega))
    have hx0 := hR0 0 (Int.le_refl _) (by omega)
    have hx1 := hR0 ((r.length : Int) - 1) (by omega) (by omega)
    rw [show ((r.length : Int) - 1).toNat = r.length - 1 by omega] at hx1
    rw [show (0 : Int).toNat = 0 from rfl] at hx0
    rw [← hG] at h1 hx1
    refine j_iload_n C dX6_canCome_7 rfl ?_
    refine j_aload_n C dX6_canCome_8 rfl ?_
    refine j_get C 0 0 10 rfl rfl rfl wU_X6 (by decide) wF_X6_28 rfl dX6_canCome_9 ?_
    refine j_iconst C dX6_canCome_12 ?_
    refine j_iald C 1 0 rfl rfl dX6_canCome_13 (by decide) (by omega) (by omega) ?_
    refine j_icmp_le (tgt := 53) C dX6_canCome_14 (by decide) (by omega) (by omega) (by omega) (by omega) (fun c14 => ?_) (fun c14 => ?_)
    · have hno : ¬ (r = [] ∨ okE D1 r p = true) := by
        intro q
        rcases q with q | q
        · exact hne q
        · unfold okE at q
          rw [decide_eq_true_eq, ← h0, ← h1] at q
          first | omega | (rw [h19, if_neg q.2.1] at c22; exact c22 rfl)
      refine j_iconst C dX6_canCome_53 ?_
      exact hR () dX6_canCome_54 (by omega) (by first | (rw [if_pos hyes]; done) | (rw [if_neg hno]; done)) rfl (Nat.le_of_ble_eq_true rfl) (Nat.le_of_ble_eq_true rfl)
    · refine j_aload_n C dX6_canCome_17 rfl ?_
      refine j_iload_n C dX6_canCome_18 rfl ?_
      refine j_perm (pm_3_0_1 _ _ _) ?_
      refine j_callVi C (As := [.int (iI _)]) (c_X6_isInRow _ _ _ _ _ _ _ _ (by first | assumption | omega) (by first | assumption | omega) (by first | assumption | omega) (by first | assumption | omega)) 1 nf_X6_isInRow (jb := 0) rfl rfl wL_X6_89 wI_X6_isInRow wSe_X6_X6_isInRow wIn_X6 wC_X6_isInRow rfl rfl (by decide) dX6_canCome_19 (Nat.le_of_ble_eq_true rfl) ⟨Nat.le_of_ble_eq_true rfl, Nat.le_of_ble_eq_true rfl⟩ (fun x19 u19 h19 => ?_)
      refine j_perm (pr_3_0_1 _ _ _) ?_
      refine j_if_ne (tgt := 53) C dX6_canCome_22 (by decide) (by omega) (by omega) (fun c22 => ?_) (fun c22 => ?_)
      · have hno : ¬ (r = [] ∨ okE D1 r p = true) := by
          intro q
          rcases q with q | q
          · exact hne q
          · unfold okE at q
            rw [decide_eq_true_eq, ← h0, ← h1] at q
            first | omega | (rw [h19, if_neg q.2.1] at c22; exact c22 rfl)
        refine j_iconst C dX6_canCome_53 ?_
        exact hR () dX6_canCome_54 (by omega) (by first | (rw [if_pos hyes]; done) | (rw [if_neg hno]; done)) rfl (Nat.le_of_ble_eq_true rfl) (Nat.le_of_ble_eq_true rfl)
      · refine j_aload_n C dX6_canCome_25 rfl ?_
        refine j_get C 0 0 7 rfl rfl rfl wU_X6 (by decide) wF_X6_22 rfl dX6_canCome_26 ?_
        refine j_bipush C dX6_canCome_29 (by decide) ?_
        refine j_aload_n C dX6_canCome_31 rfl ?_
        refine j_get C 0 0 10 rfl rfl rfl wU_X6 (by decide) wF_X6_28 rfl dX6_canCome_32 ?_
        refine j_aload_n C dX6_canCome_35 rfl ?_
        refine j_get C 0 0 12 rfl rfl rfl wU_X6 (by decide) wF_X6_86 rfl dX6_canCome_36 ?_
        refine j_iconst C dX6_canCome_39 ?_
        refine j_isub C dX6_canCome_40 ?_
        refine j_iald C 1 0 rfl rfl dX6_canCome_41 (by decide) (by omega) (by omega) ?_
        refine j_imul C dX6_canCome_42 ?_
        refine j_iload_n C dX6_canCome_43 rfl ?_
        refine j_iadd C dX6_canCome_44 ?_
        have hDq := hD (7 * R (G 4 - 1) + p) (by omega) (by omega)
        refine j_iald C 2 0 rfl rfl dX6_canCome_45 (by decide) (by omega) (by omega) ?_
        refine j_if_le (tgt := 53) C dX6_canCome_46 (by decide) (by omega) (by omega) (fun c46 => ?_) (fun c46 => ?_)
        · have hno : ¬ (r = [] ∨ okE D1 r p = true) := by
            intro q
            rcases q with q | q
            · exact hne q
            · unfold okE at q
              rw [decide_eq_true_eq, ← h0, ← h1] at q
              first | omega | (rw [h19, if_neg q.2.1] at c22; exact c22 rfl)
          refine j_iconst C dX6_canCome_53 ?_
          exact hR () dX6_canCome_54 (by omega) (by first | (rw [if_pos hyes]; done) | (rw [if_neg hno]; done)) rfl (Nat.le_of_ble_eq_true rfl) (Nat.le_of_ble_eq_true rfl)
        · have hyes : r = [] ∨ okE D1 r p = true := by
            first
            | (right; unfold okE; rw [decide_eq_true_eq, ← h0, ← h1]; refine ⟨by omega, ?_, by omega⟩; rw [h19] at c22; split at c22; (omega); assumption)
            | (left; exact List.length_eq_zero_iff.mp (by omega))
          refine j_iconst C dX6_canCome_49 ?_
          refine j_goto (tgt := 54) C dX6_canCome_50 (by decide) ?_
          exact hR () dX6_canCome_54 (by omega) (by first | (rw [if_pos hyes]; done) | (rw [if_neg hno]; done)) rfl (Nat.le_of_ble_eq_true rfl) (Nat.le_of_ble_eq_true rfl)
