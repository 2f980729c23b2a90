/-! the remainder: from what it begins, and what it answers -/
theorem exN_bd {S : Int → Int} (hI : Inv S) {i : Int} (h0 : 0 ≤ i) (h1 : i ≤ S 1) (p : Int) : -40000 ≤ exN S i.toNat p ∧ exN S i.toNat p ≤ 40000 := by
  have h := (exN_ok hI i.toNat (by omega)).2 p
  have := hI.2.1
  omega
def stC (S x : Int → Int) : Int := sumZ (fun k => if di S k = 0 then x k * ra S k else am S k * ra S k) (S 1)
theorem LX_e {S : Int → Int} {n : Nat} {x e : Int → Int} (h : near (meas S x e).1 e = -1) : LC S n x e = x := by
  cases n with
  | zero => rfl
  | succ n => rw [LC, if_pos h]
theorem LX_s {S : Int → Int} {n : Nat} {x e : Int → Int} (h : near (meas S x e).1 e ≠ -1) : LC S (n + 1) x e = LC S n (nxt S x e (near (meas S x e).1 e)).1 (nxt S x e (near (meas S x e).1 e)).2 := by rw [LC, if_neg h]
theorem mulb {a b : Int} (a0 : 0 ≤ a) (a1 : a ≤ 1000) (b0 : 1 ≤ b) (b1 : b ≤ 9) : 0 ≤ a * b ∧ a * b ≤ 9000 := ⟨Int.mul_nonneg a0 (by omega), by
  have := Int.mul_le_mul (a := a) (b := b) (c := 1000) (d := 9) a1 b1 (by omega) (by omega)
  omega⟩
theorem meas_Bd {S x e : Int → Int} (hI : Inv S) (hL : LI S x e) : ∀ p : Int, 0 ≤ p → p < 7 → (meas S x e).1 p = FAR ∨ (0 ≤ (meas S x e).1 p ∧ (meas S x e).1 p ≤ 54) := by
  obtain ⟨hx, ⟨y, hy⟩, -⟩ := hL
  obtain ⟨t, hF, -⟩ := meas_fin hI hy hx
  exact fun p h0 h1 => (hF.2 p h0 h1).1
theorem pm_3_2 (B0 B1 B2 : va_W) : [B0, B1, B2].Perm ([B2] ++ [B0, B1]) := List.perm_middle (l₁ := [B0, B1]) (a := B2) (l₂ := [])
theorem pr_3_2 (B0 B1 B2 : va_W) : ([B2] ++ [B0, B1]).Perm [B0, B1, B2] := (pm_3_2 B0 B1 B2).symm
theorem pm_4_0_2 (B0 B1 B2 B3 : va_W) : [B0, B1, B2, B3].Perm ([B0, B2] ++ [B1, B3]) := List.Perm.trans (List.Perm.refl _) (List.Perm.cons _ (List.perm_middle (l₁ := [B1]) (a := B2) (l₂ := [B3])))
theorem pr_4_0_2 (B0 B1 B2 B3 : va_W) : ([B0, B2] ++ [B1, B3]).Perm [B0, B1, B2, B3] := (pm_4_0_2 B0 B1 B2 B3).symm
theorem pm_4_3 (B0 B1 B2 B3 : va_W) : [B0, B1, B2, B3].Perm ([B3] ++ [B0, B1, B2]) := List.perm_middle (l₁ := [B0, B1, B2]) (a := B3) (l₂ := [])
theorem pr_4_3 (B0 B1 B2 B3 : va_W) : ([B3] ++ [B0, B1, B2]).Perm [B0, B1, B2, B3] := (pm_4_3 B0 B1 B2 B3).symm
theorem pm_6_0_1_2_5 (B0 B1 B2 B3 B4 B5 : va_W) : [B0, B1, B2, B3, B4, B5].Perm ([B0, B1, B2, B5] ++ [B3, B4]) := List.Perm.trans (List.Perm.refl _) (List.Perm.trans (List.Perm.cons _ (List.Perm.refl _)) (List.Perm.trans (List.Perm.cons _ (List.Perm.cons _ (List.Perm.refl _))) (List.Perm.cons _ (List.Perm.cons _ (List.Perm.cons _ (List.perm_middle (l₁ := [B3, B4]) (a := B5) (l₂ := [])))))))
theorem pr_6_0_1_2_5 (B0 B1 B2 B3 B4 B5 : va_W) : ([B0, B1, B2, B5] ++ [B3, B4]).Perm [B0, B1, B2, B3, B4, B5] := (pm_6_0_1_2_5 B0 B1 B2 B3 B4 B5).symm
theorem pm_6_0_1_5 (B0 B1 B2 B3 B4 B5 : va_W) : [B0, B1, B2, B3, B4, B5].Perm ([B0, B1, B5] ++ [B2, B3, B4]) := List.Perm.trans (List.Perm.refl _) (List.Perm.trans (List.Perm.cons _ (List.Perm.refl _)) (List.Perm.cons _ (List.Perm.cons _ (List.perm_middle (l₁ := [B2, B3, B4]) (a := B5) (l₂ := [])))))
theorem pr_6_0_1_5 (B0 B1 B2 B3 B4 B5 : va_W) : ([B0, B1, B5] ++ [B2, B3, B4]).Perm [B0, B1, B2, B3, B4, B5] := (pm_6_0_1_5 B0 B1 B2 B3 B4 B5).symm
theorem pm_6_0_2_3 (B0 B1 B2 B3 B4 B5 : va_W) : [B0, B1, B2, B3, B4, B5].Perm ([B0, B2, B3] ++ [B1, B4, B5]) := List.Perm.trans (List.Perm.refl _) (List.Perm.trans (List.Perm.cons _ (List.perm_middle (l₁ := [B1]) (a := B2) (l₂ := [B3, B4, B5]))) (List.Perm.cons _ (List.Perm.cons _ (List.perm_middle (l₁ := [B1]) (a := B3) (l₂ := [B4, B5])))))
theorem pr_6_0_2_3 (B0 B1 B2 B3 B4 B5 : va_W) : ([B0, B2, B3] ++ [B1, B4, B5]).Perm [B0, B1, B2, B3, B4, B5] := (pm_6_0_2_3 B0 B1 B2 B3 B4 B5).symm
set_option maxHeartbeats 4000000 in
set_option maxRecDepth 100000 in
theorem c_X3_start (l : Launch) (D : va_G) (cA : Nat → ClassId) (m : Nat → Nat) (X E : Int → Int) (b : Nat → Nat) (S : Int → Int) (hI : Inv S) : MV (U := (Int → Int) × (Int → Int)) l yX3_start cX3_start 3 none (rmN 3 0 0) D cA [.ref (m 0), .ref (b 0)] [rmO m, [(m 1, aJ (cA 0) 40 X)], [(m 2, aJ (cA 0) 7 E)], bk cA b S] (fun u => AG (S 1) u.1 (fun _ => 0) ∧ AG 7 u.2 (ex0 S)) (fun u => [rmO m, [(m 1, aJ (cA 0) 40 u.1)], [(m 2, aJ (cA 0) 7 u.2)], bk cA b S]) := by
  refine m_startV pn_X3 rfl (List.forall_mem_cons.mpr ⟨rfl, List.forall_mem_cons.mpr ⟨rfl, fun _ h => absurd h List.not_mem_nil⟩⟩) (Nat.le_of_ble_eq_true rfl) ?_
  intro K C e1 e2 e3 hin hR
  subst e1 e2 e3
  have hN := hI.2.1
  show J K 0 0 [rmO m, [(m 1, aJ ((kC K) 0) 40 X)], [(m 2, aJ ((kC K) 0) 7 E)], bk (kC K) b S] [some (.ref (m 0)), some (.ref (b 0)), none] 0 []
  refine j_iconst C dX3_start_0 ?_
  refine j_istn_2 C dX3_start_1 rfl ?_
  have L2 : ∀ (fuel : Nat) (i : Int) (E1 : Int → Int) (hi : 0 ≤ i ∧ i ≤ 7) (h1 : ∀ q : Int, 0 ≤ q → q < i → E1 q = 0) (hf2 : (7 - i).toNat < fuel), J K 0 0 [rmO m, [(m 1, aJ ((kC K) 0) 40 X)], [(m 2, aJ ((kC K) 0) 7 E1)], bk (kC K) b S] [some (.ref (m 0)), some (.ref (b 0)), some (.int (iI i))] 2 [] := by
    intro fuel
    induction fuel with
    | zero => intro i E1 hi h1 hf2; exact absurd hf2 (Nat.not_lt_zero _)
    | succ fuel ih2 =>
      intro i E1 hi h1 hf2
      refine j_iload_n C dX3_start_2 rfl ?_
      refine j_bipush C dX3_start_3 (by decide) ?_
      refine j_icmp_ge (tgt := 21) C dX3_start_5 (by decide) (by omega) (by omega) (by omega) (by omega) (fun c5 => ?_) (fun c5 => ?_)
      · refine j_iconst C dX3_start_21 ?_
        refine j_istn_2 C dX3_start_22 rfl ?_
        have L23 : ∀ (fuel : Nat) (i : Int) (X1 E2 : Int → Int) (hi : 0 ≤ i ∧ i ≤ S 1) (hX : AG i X1 (fun _ => 0)) (hE : AG 7 E2 (exN S i.toNat)) (hf23 : (S 1 - i).toNat < fuel), J K 0 0 [rmO m, [(m 1, aJ ((kC K) 0) 40 X1)], [(m 2, aJ ((kC K) 0) 7 E2)], bk (kC K) b S] [some (.ref (m 0)), some (.ref (b 0)), some (.int (iI i))] 23 [] := by
          intro fuel
          induction fuel with
          | zero => intro i X1 E2 hi hX hE hf23; exact absurd hf23 (Nat.not_lt_zero _)
          | succ fuel ih23 =>
            intro i X1 E2 hi hX hE hf23
            refine j_iload_n C dX3_start_23 rfl ?_
            refine j_aload_n C dX3_start_24 rfl ?_
            refine j_getN C 3 0 1 rfl rfl rfl wU_X0 (by decide) wFN_X3_44 rfl dX3_start_25 ?_
            refine j_icmp_ge (tgt := 85) C dX3_start_28 (by decide) (by omega) (by omega) (by omega) (by omega) (fun c28 => ?_) (fun c28 => ?_)
            · refine hR (X1, E2) dX3_start_85 ?_ rfl (Nat.le_of_ble_eq_true rfl) (Nat.le_of_ble_eq_true rfl)
              rw [show i = S 1 by omega] at hX hE
              exact ⟨hX, hE⟩
            · have f := hI.2.2 i hi.1 (by omega)
              have g := hI.1
              have hX2 : AG (i + 1) (st X1 i 0) (fun _ => 0) := fun q a b => by
                by_cases z : q = i
                · subst z; exact st_s _ _ _
                · rw [st_n z]; exact hX q a (by omega)
              refine j_aload_n C dX3_start_31 rfl ?_
              refine j_get C 0 0 0 rfl rfl rfl wU_X3 (by decide) wF_X3_9 rfl dX3_start_32 ?_
              refine j_iload_n C dX3_start_35 rfl ?_
              refine j_iconst C dX3_start_36 ?_
              refine j_iast_p1 C 0 rfl ar1_ast dX3_start_37 (by decide) (by omega) (by omega) ?_
              refine j_aload_n C dX3_start_38 rfl ?_
              refine j_iload_n C dX3_start_39 rfl ?_
              refine j_perm (pm_4_3 _ _ _ _) ?_
              refine j_callVi C (As := [.int (iI _)]) (c_X0_isOwing _ _ _ _ _ _ (by first | assumption | omega) (by first | assumption | omega)) 1 nf_X0_isOwing (jb := 0) rfl rfl wL_X3_50 wI_X0_isOwing wSe_X0_X0_isOwing wIn_X0 wC_X0_isOwing rfl rfl (by decide) dX3_start_40 (Nat.le_of_ble_eq_true rfl) ⟨Nat.le_of_ble_eq_true rfl, Nat.le_of_ble_eq_true rfl⟩ (fun x40 u40 h40 => ?_)
              refine j_perm (pr_4_3 _ _ _ _) ?_
              have L79 : ∀ (E3 : Int → Int) (hE3 : AG 7 E3 (exN S (i + 1).toNat)), J K 0 0 [rmO m, [(m 1, aJ ((kC K) 0) 40 (st X1 i 0))], [(m 2, aJ ((kC K) 0) 7 E3)], bk (kC K) b S] [some (.ref (m 0)), some (.ref (b 0)), some (.int (iI i))] 79 [] := by
                intro E3 hE3
                refine j_iinc_2 C dX3_start_79 rfl ?_
                refine j_goto (tgt := 23) C dX3_start_82 (by decide) ?_
                exact ih23 _ _ _ (by omega) (by exact hX2) (by exact hE3) (by omega)
              refine j_if_eq (tgt := 79) C dX3_start_43 (by decide) (by omega) (by omega) (fun c43 => ?_) (fun c43 => ?_)
              · exact L79 _ (by rw [show (i + 1).toNat = i.toNat + 1 by omega, exN, show ((i.toNat : Nat) : Int) = i by omega]; first | (rw [if_neg (by rw [h40] at c43; split at c43 <;> omega)]; exact hE) | (rw [if_pos (by rw [h40] at c43; split at c43 <;> omega)]; exact AG_st (AG_st hE (fun a b => by rw [hE _ a b])) (fun a b => by rw [AG_st hE (fun a b => by rw [hE _ a b]) _ a b])))
              · refine j_aload_n C dX3_start_46 rfl ?_
                refine j_aload_n C dX3_start_47 rfl ?_
                refine j_getN C 3 0 5 rfl rfl rfl wU_X0 (by decide) wFN_X3_54 rfl dX3_start_48 ?_
                refine j_iload_n C dX3_start_51 rfl ?_
                refine j_iald C 3 1 rfl rfl dX3_start_52 (by decide) (by omega) (by omega) ?_
                refine j_aload_n C dX3_start_53 rfl ?_
                refine j_getN C 3 0 7 rfl rfl rfl wU_X0 (by decide) wFN_X3_57 rfl dX3_start_54 ?_
                refine j_iload_n C dX3_start_57 rfl ?_
                refine j_iald C 3 3 rfl rfl dX3_start_58 (by decide) (by omega) (by omega) ?_
                refine j_perm (pm_4_0_2 _ _ _ _) ?_
                refine j_callVv C (As := [.int (iI _), .int (iI _)]) (c_X3_addExcess _ _ _ _ _ _ _ (by first | assumption | omega)) 2 nf_X3_addExcess (jb := 0) rfl rfl wL_X3_60 wI_X3_addExcess wSe_X3_X3_addExcess wIn_X3 wC_X3_addExcess rfl rfl (by decide) dX3_start_59 (Nat.le_of_ble_eq_true rfl) ⟨Nat.le_of_ble_eq_true rfl, Nat.le_of_ble_eq_true rfl⟩ (fun u59 h59 => ?_)
                refine j_perm (pr_4_0_2 _ _ _ _) ?_
                refine j_aload_n C dX3_start_62 rfl ?_
                refine j_aload_n C dX3_start_63 rfl ?_
                refine j_getN C 3 0 6 rfl rfl rfl wU_X0 (by decide) wFN_X3_64 rfl dX3_start_64 ?_
                refine j_iload_n C dX3_start_67 rfl ?_
                refine j_iald C 3 2 rfl rfl dX3_start_68 (by decide) (by omega) (by omega) ?_
                refine j_aload_n C dX3_start_69 rfl ?_
                refine j_getN C 3 0 7 rfl rfl rfl wU_X0 (by decide) wFN_X3_57 rfl dX3_start_70 ?_
                refine j_iload_n C dX3_start_73 rfl ?_
                refine j_iald C 3 3 rfl rfl dX3_start_74 (by decide) (by omega) (by omega) ?_
                refine j_ineg C dX3_start_75 ?_
                refine j_perm (pm_4_0_2 _ _ _ _) ?_
                refine j_callVv C (As := [.int (iI _), .int (iI _)]) (c_X3_addExcess _ _ _ _ _ _ _ (by first | assumption | omega)) 2 nf_X3_addExcess (jb := 0) rfl rfl wL_X3_60 wI_X3_addExcess wSe_X3_X3_addExcess wIn_X3 wC_X3_addExcess rfl rfl (by decide) dX3_start_76 (Nat.le_of_ble_eq_true rfl) ⟨Nat.le_of_ble_eq_true rfl, Nat.le_of_ble_eq_true rfl⟩ (fun u76 h76 => ?_)
                refine j_perm (pr_4_0_2 _ _ _ _) ?_
                exact L79 _ (by rw [show (i + 1).toNat = i.toNat + 1 by omega, exN, show ((i.toNat : Nat) : Int) = i by omega]; first | (rw [if_neg (by rw [h40] at c43; split at c43 <;> omega)]; exact hE) | (rw [if_pos (by rw [h40] at c43; split at c43 <;> omega)]; exact AG_st (AG_st hE (fun a b => by rw [hE _ a b])) (fun a b => by rw [AG_st hE (fun a b => by rw [hE _ a b]) _ a b])))
        exact L23 _ _ _ _ (by omega) (by intro q a b; omega) (by exact fun q a b => h1 q a (by omega)) (Nat.lt_succ_self _)
      · refine j_aload_n C dX3_start_8 rfl ?_
        refine j_get C 0 0 1 rfl rfl rfl wU_X3 (by decide) wF_X3_15 rfl dX3_start_9 ?_
        refine j_iload_n C dX3_start_12 rfl ?_
        refine j_iconst C dX3_start_13 ?_
        refine j_iast_p2 C 0 rfl ar1_ast dX3_start_14 (by decide) (by omega) (by omega) ?_
        refine j_iinc_2 C dX3_start_15 rfl ?_
        refine j_goto (tgt := 2) C dX3_start_18 (by decide) ?_
        exact ih2 _ _ (by omega) (by intro q a b; by_cases z : q = i; (subst z; exact st_s _ _ _); (rw [st_n z]; exact h1 q a (by omega))) (by omega)
  exact L2 _ _ _ (by omega) (by intro q a b; omega) (Nat.lt_succ_self _)
set_option maxHeartbeats 4000000 in
set_option maxRecDepth 100000 in
theorem c_X3_costThatStays (l : Launch) (D : va_G) (cA : Nat → ClassId) (m : Nat → Nat) (X : Int → Int) (b : Nat → Nat) (S x : Int → Int) (hI : Inv S) (hX : AG (S 1) X x) (hxb : XB S x) : MI (U := Unit) l yX3_costThatStays cX3_costThatStays 4 (some .int) (rmN 2 0 0) D cA [.ref (m 0), .ref (b 0)] [rmO m, [(m 1, aJ (cA 0) 40 X)], bk cA b S] (fun y _ => y = stC S x) (fun _ => [rmO m, [(m 1, aJ (cA 0) 40 X)], bk cA b S]) := by
  refine m_startI pn_X3 rfl (List.forall_mem_cons.mpr ⟨rfl, List.forall_mem_cons.mpr ⟨rfl, fun _ h => absurd h List.not_mem_nil⟩⟩) (Nat.le_of_ble_eq_true rfl) ?_
  intro K C e1 e2 e3 hin hR
  subst e1 e2 e3
  have hN := hI.2.1
  show J K 0 0 [rmO m, [(m 1, aJ ((kC K) 0) 40 X)], bk (kC K) b S] [some (.ref (m 0)), some (.ref (b 0)), none, none] 0 []
  refine j_iconst C dX3_costThatStays_0 ?_
  refine j_istn_2 C dX3_costThatStays_1 rfl ?_
  refine j_iconst C dX3_costThatStays_2 ?_
  refine j_istn_3 C dX3_costThatStays_3 rfl ?_
  have L4 : ∀ (fuel : Nat) (y i : Int) (hi : 0 ≤ i ∧ i ≤ S 1) (hy : y = sumZ (fun k => if di S k = 0 then x k * ra S k else am S k * ra S k) i) (hb : 0 ≤ y ∧ y ≤ 9000 * i) (hf4 : (S 1 - i).toNat < fuel), J K 0 0 [rmO m, [(m 1, aJ ((kC K) 0) 40 X)], bk (kC K) b S] [some (.ref (m 0)), some (.ref (b 0)), some (.int (iI y)), some (.int (iI i))] 4 [] := by
    intro fuel
    induction fuel with
    | zero => intro y i hi hy hb hf4; exact absurd hf4 (Nat.not_lt_zero _)
    | succ fuel ih4 =>
      intro y i hi hy hb hf4
      refine j_iload_n C dX3_costThatStays_4 rfl ?_
      refine j_aload_n C dX3_costThatStays_5 rfl ?_
      refine j_getN C 2 0 1 rfl rfl rfl wU_X0 (by decide) wFN_X3_44 rfl dX3_costThatStays_6 ?_
      refine j_icmp_ge (tgt := 51) C dX3_costThatStays_9 (by decide) (by omega) (by omega) (by omega) (by omega) (fun c9 => ?_) (fun c9 => ?_)
      · refine j_iload_n C dX3_costThatStays_51 rfl ?_
        refine hR () dX3_costThatStays_52 ?_ rfl (Nat.le_of_ble_eq_true rfl) (Nat.le_of_ble_eq_true rfl)
        rw [show i = S 1 by omega] at hy
        exact hy
      · have f := hI.2.2 i hi.1 (by omega)
        have hXi := hX i hi.1 (by omega)
        have hxi := hxb i hi.1 (by omega)
        have m1 := mulb f.2.2.2.1.1 f.2.2.2.1.2 f.2.2.2.2.1.1 f.2.2.2.2.1.2
        have m2 := mulb hxi.1 (by omega) f.2.2.2.2.1.1 f.2.2.2.2.1.2
        refine j_iload_n C dX3_costThatStays_12 rfl ?_
        refine j_aload_n C dX3_costThatStays_13 rfl ?_
        refine j_getN C 2 0 12 rfl rfl rfl wU_X0 (by decide) wFN_X3_105 rfl dX3_costThatStays_14 ?_
        refine j_iload_n C dX3_costThatStays_17 rfl ?_
        refine j_zald C 2 8 rfl rfl dX3_costThatStays_18 (by decide) (by omega) (by omega) ?_
        have L43 : ∀ (w : Int) (hww : w = if di S i = 0 then x i * ra S i else am S i * ra S i), J K 0 0 [rmO m, [(m 1, aJ ((kC K) 0) 40 X)], bk (kC K) b S] [some (.ref (m 0)), some (.ref (b 0)), some (.int (iI y)), some (.int (iI i))] 43 [.int (iI w), .int (iI y)] := by
          intro w hww
          have hwb : 0 ≤ w ∧ w ≤ 9000 := by rw [hww]; split <;> assumption
          refine j_iadd C dX3_costThatStays_43 ?_
          refine j_istn_2 C dX3_costThatStays_44 rfl ?_
          refine j_iinc_3 C dX3_costThatStays_45 rfl ?_
          refine j_goto (tgt := 4) C dX3_costThatStays_48 (by decide) ?_
          exact ih4 _ _ (by omega) (by rw [sumZ_s _ hi.1, ← hy, hww]) (by omega) (by omega)
        refine j_if_eq (tgt := 30) C dX3_costThatStays_19 (by decide) (by omega) (by omega) (fun c19 => ?_) (fun c19 => ?_)
        · refine j_aload_n C dX3_costThatStays_30 rfl ?_
          refine j_get C 0 0 0 rfl rfl rfl wU_X3 (by decide) wF_X3_9 rfl dX3_costThatStays_31 ?_
          refine j_iload_n C dX3_costThatStays_34 rfl ?_
          refine j_iald C 1 0 rfl rfl dX3_costThatStays_35 (by decide) (by omega) (by omega) ?_
          refine j_aload_n C dX3_costThatStays_36 rfl ?_
          refine j_getN C 2 0 8 rfl rfl rfl wU_X0 (by decide) wFN_X3_75 rfl dX3_costThatStays_37 ?_
          refine j_iload_n C dX3_costThatStays_40 rfl ?_
          refine j_iald C 2 4 rfl rfl dX3_costThatStays_41 (by decide) (by omega) (by omega) ?_
          refine j_imul C dX3_costThatStays_42 ?_
          exact L43 _ (by first | (rw [if_pos (by omega), hXi]) | (rw [if_neg (by omega)]; first | assumption | omega))
        · refine j_aload_n C dX3_costThatStays_22 rfl ?_
          refine j_iload_n C dX3_costThatStays_23 rfl ?_
          refine j_perm (pm_3_2 _ _ _) ?_
          refine j_callVi C (As := [.int (iI _)]) (c_X0_costOf _ _ _ _ _ _ (by first | assumption | omega) (by first | assumption | omega)) 1 nf_X0_costOf (jb := 0) rfl rfl wL_X3_109 wI_X0_costOf wSe_X0_X0_costOf wIn_X0 wC_X0_costOf rfl rfl (by decide) dX3_costThatStays_24 (Nat.le_of_ble_eq_true rfl) ⟨Nat.le_of_ble_eq_true rfl, Nat.le_of_ble_eq_true rfl⟩ (fun x24 u24 h24 => ?_)
          refine j_perm (pr_3_2 _ _ _) ?_
          refine j_goto (tgt := 43) C dX3_costThatStays_27 (by decide) ?_
          exact L43 _ (by first | (rw [if_pos (by omega), hXi]) | (rw [if_neg (by omega)]; first | assumption | omega))
  exact L4 _ _ _ (by omega) (by rfl) (by omega) (Nat.lt_succ_self _)
set_option maxHeartbeats 4000000 in
set_option maxRecDepth 100000 in
theorem c_X3_leastCostOf (l : Launch) (D : va_G) (cA : Nat → ClassId) (m : Nat → Nat) (X E D1 B1 : Int → Int) (b : Nat → Nat) (S : Int → Int) (hI : Inv S) : MI (U := (Int → Int) × (Int → Int) × (Int → Int) × (Int → Int)) l yX3_leastCostOf cX3_leastCostOf 4 (some .int) (rmN 6 0 0) D cA [.ref (m 0), .ref (b 0)] [rmO m, [(m 1, aJ (cA 0) 40 X)], [(m 2, aJ (cA 0) 7 E)], [(m 3, aJ (cA 0) 7 D1)], [(m 4, aJ (cA 0) 7 B1)], bk cA b S] (fun y _ => y = leastS S) (fun u => [rmO m, [(m 1, aJ (cA 0) 40 u.1)], [(m 2, aJ (cA 0) 7 u.2.1)], [(m 3, aJ (cA 0) 7 u.2.2.1)], [(m 4, aJ (cA 0) 7 u.2.2.2)], bk cA b S]) := by
  refine m_startI pn_X3 rfl (List.forall_mem_cons.mpr ⟨rfl, List.forall_mem_cons.mpr ⟨rfl, fun _ h => absurd h List.not_mem_nil⟩⟩) (Nat.le_of_ble_eq_true rfl) ?_
  intro K C e1 e2 e3 hin hR
  subst e1 e2 e3
  have hN := hI.2.1
  have h00 := (LI_0 hI).1
  show J K 0 0 [rmO m, [(m 1, aJ ((kC K) 0) 40 X)], [(m 2, aJ ((kC K) 0) 7 E)], [(m 3, aJ ((kC K) 0) 7 D1)], [(m 4, aJ ((kC K) 0) 7 B1)], bk (kC K) b S] [some (.ref (m 0)), some (.ref (b 0)), none, none] 0 []
  refine j_aload_n C dX3_leastCostOf_0 rfl ?_
  refine j_aload_n C dX3_leastCostOf_1 rfl ?_
  refine j_perm (pm_6_0_1_2_5 _ _ _ _ _ _) ?_
  refine j_callVv C (As := [.ref _]) (c_X3_start _ _ _ _ _ _ _ _ (by first | assumption | omega)) 1 nf_X3_start (jb := 0) rfl rfl wL_X3_24 wI_X3_start wSe_X3_X3_start wIn_X3 wC_X3_start rfl rfl (by decide) dX3_leastCostOf_2 (Nat.le_of_ble_eq_true rfl) ⟨Nat.le_of_ble_eq_true rfl, Nat.le_of_ble_eq_true rfl⟩ (fun u2 h2 => ?_)
  refine j_perm (pr_6_0_1_2_5 _ _ _ _ _ _) ?_
  obtain ⟨X0, E0⟩ := u2
  obtain ⟨hX0, hE0⟩ := h2
  dsimp only at hX0 hE0 ⊢
  refine j_iconst C dX3_leastCostOf_5 ?_
  refine j_istn_2 C dX3_leastCostOf_6 rfl ?_
  refine j_aload_n C dX3_leastCostOf_7 rfl ?_
  refine j_aload_n C dX3_leastCostOf_8 rfl ?_
  refine j_perm (pm_6_0_1_2_3_4_5 _ _ _ _ _ _) ?_
  refine j_callVv C (As := [.ref _]) (c_X3_measure _ _ _ _ _ _ _ _ _ _ (fun _ => 0) (ex0 S) (by first | assumption | omega) (by first | assumption | omega) (by first | assumption | omega) (by first | assumption | omega)) 1 nf_X3_measure (jb := 0) rfl rfl wL_X3_28 wI_X3_measure wSe_X3_X3_measure wIn_X3 wC_X3_measure rfl rfl (by decide) dX3_leastCostOf_9 (Nat.le_of_ble_eq_true rfl) ⟨Nat.le_of_ble_eq_true rfl, Nat.le_of_ble_eq_true rfl⟩ (fun u9 h9 => ?_)
  refine j_perm (pr_6_0_1_2_3_4_5 _ _ _ _ _ _) ?_
  have hb0 := meas_Bd hI h00
  refine j_aload_n C dX3_leastCostOf_12 rfl ?_
  refine j_perm (pm_6_0_2_3 _ _ _ _ _ _) ?_
  refine j_callVi C (As := []) (c_X3_nearestEnd _ _ _ _ _ _ (ex0 S) ((meas S (fun _ => 0) (ex0 S)).1) (by exact hE0) (by exact fun q a b => (h9 q a b).1) (by exact h00.2.2) (by exact hb0)) 0 nf_X3_nearestEnd (jb := 0) rfl rfl wL_X3_31 wI_X3_nearestEnd wSe_X3_X3_nearestEnd wIn_X3 wC_X3_nearestEnd rfl rfl (by decide) dX3_leastCostOf_13 (Nat.le_of_ble_eq_true rfl) ⟨Nat.le_of_ble_eq_true rfl, Nat.le_of_ble_eq_true rfl⟩ (fun x13 u13 h13 => ?_)
  refine j_perm (pr_6_0_2_3 _ _ _ _ _ _) ?_
  refine j_istn_3 C dX3_leastCostOf_16 rfl ?_
  have L17 : ∀ (fuel : Nat) (w z : Int) (x e X1 E1 D2 B2 : Int → Int) (hw : 0 ≤ w ∧ w ≤ 40000) (hL : LI S x e) (hX : AG (S 1) X1 x) (hE : AG 7 E1 e) (hM : RB (meas S x e) D2 B2) (hz : z = near (meas S x e).1 e) (hC : LC S (40000 - w).toNat x e = LX S) (hf17 : (40000 - w).toNat < fuel), J K 0 0 [rmO m, [(m 1, aJ ((kC K) 0) 40 X1)], [(m 2, aJ ((kC K) 0) 7 E1)], [(m 3, aJ ((kC K) 0) 7 D2)], [(m 4, aJ ((kC K) 0) 7 B2)], bk (kC K) b S] [some (.ref (m 0)), some (.ref (b 0)), some (.int (iI w)), some (.int (iI z))] 17 [] := by
    intro fuel
    induction fuel with
    | zero => intro w z x e X1 E1 D2 B2 hw hL hX hE hM hz hC hf17; exact absurd hf17 (Nat.not_lt_zero _)
    | succ fuel ih17 =>
      intro w z x e X1 E1 D2 B2 hw hL hX hE hM hz hC hf17
      refine j_iload_n C dX3_leastCostOf_17 rfl ?_
      refine j_ldc C 40000 (by decide) wN_X3_35 dX3_leastCostOf_18 ?_
      refine j_icmp_ge (tgt := 50) C dX3_leastCostOf_20 (by decide) (by omega) (by omega) (by omega) (by omega) (fun c20 => ?_) (fun c20 => ?_)
      · have hxl : x = LX S := by
          rw [← hC]
          first | (rw [show (40000 - w).toNat = 0 by omega]; rfl) | (exact (LX_e (by omega)).symm)
        refine j_aload_n C dX3_leastCostOf_50 rfl ?_
        refine j_aload_n C dX3_leastCostOf_51 rfl ?_
        refine j_perm (pm_6_0_1_5 _ _ _ _ _ _) ?_
        refine j_callVi C (As := [.ref _]) (c_X3_costThatStays _ _ _ _ _ _ _ (LX S) (by first | assumption | omega) (by rw [← hxl]; exact hX) (by rw [← hxl]; exact hL.1)) 1 nf_X3_costThatStays (jb := 0) rfl rfl wL_X3_40 wI_X3_costThatStays wSe_X3_X3_costThatStays wIn_X3 wC_X3_costThatStays rfl rfl (by decide) dX3_leastCostOf_52 (Nat.le_of_ble_eq_true rfl) ⟨Nat.le_of_ble_eq_true rfl, Nat.le_of_ble_eq_true rfl⟩ (fun x52 u52 h52 => ?_)
        refine j_perm (pr_6_0_1_5 _ _ _ _ _ _) ?_
        exact hR (X1, E1, D2, B2) dX3_leastCostOf_55 (by exact h52) rfl (Nat.le_of_ble_eq_true rfl) (Nat.le_of_ble_eq_true rfl)
      · have hnz := near_ok (meas S x e).1 e
        rw [← hz] at hnz
        refine j_iload_n C dX3_leastCostOf_23 rfl ?_
        refine j_iconst C dX3_leastCostOf_24 ?_
        refine j_icmp_eq (tgt := 50) C dX3_leastCostOf_25 (by decide) (by omega) (by omega) (by omega) (by omega) (fun c25 => ?_) (fun c25 => ?_)
        · have hxl : x = LX S := by
            rw [← hC]
            first | (rw [show (40000 - w).toNat = 0 by omega]; rfl) | (exact (LX_e (by omega)).symm)
          refine j_aload_n C dX3_leastCostOf_50 rfl ?_
          refine j_aload_n C dX3_leastCostOf_51 rfl ?_
          refine j_perm (pm_6_0_1_5 _ _ _ _ _ _) ?_
          refine j_callVi C (As := [.ref _]) (c_X3_costThatStays _ _ _ _ _ _ _ (LX S) (by first | assumption | omega) (by rw [← hxl]; exact hX) (by rw [← hxl]; exact hL.1)) 1 nf_X3_costThatStays (jb := 0) rfl rfl wL_X3_40 wI_X3_costThatStays wSe_X3_X3_costThatStays wIn_X3 wC_X3_costThatStays rfl rfl (by decide) dX3_leastCostOf_52 (Nat.le_of_ble_eq_true rfl) ⟨Nat.le_of_ble_eq_true rfl, Nat.le_of_ble_eq_true rfl⟩ (fun x52 u52 h52 => ?_)
          refine j_perm (pr_6_0_1_5 _ _ _ _ _ _) ?_
          exact hR (X1, E1, D2, B2) dX3_leastCostOf_55 (by exact h52) rfl (Nat.le_of_ble_eq_true rfl) (Nat.le_of_ble_eq_true rfl)
        · have hnx := nxt_ok (p := z) hI hL (by omega) (by omega) (by omega) (by omega)
          refine j_aload_n C dX3_leastCostOf_28 rfl ?_
          refine j_aload_n C dX3_leastCostOf_29 rfl ?_
          refine j_iload_n C dX3_leastCostOf_30 rfl ?_
          refine j_perm (pm_6_0_1_2_3_4_5 _ _ _ _ _ _) ?_
          refine j_callVv C (As := [.ref _, .int (iI _)]) (c_X3_push _ _ _ _ _ _ _ _ _ _ (x) (e) _ (by first | assumption | omega) (by first | assumption | omega) (by first | assumption | omega) (by first | assumption | omega) (by exact hM) (by omega) (by omega) (by omega)) 2 nf_X3_push (jb := 0) rfl rfl wL_X3_36 wI_X3_push wSe_X3_X3_push wIn_X3 wC_X3_push rfl rfl (by decide) dX3_leastCostOf_31 (Nat.le_of_ble_eq_true rfl) ⟨Nat.le_of_ble_eq_true rfl, Nat.le_of_ble_eq_true rfl⟩ (fun u31 h31 => ?_)
          refine j_perm (pr_6_0_1_2_3_4_5 _ _ _ _ _ _) ?_
          obtain ⟨X2, E2⟩ := u31
          dsimp only at h31 ⊢
          refine j_iinc_2 C dX3_leastCostOf_34 rfl ?_
          refine j_aload_n C dX3_leastCostOf_37 rfl ?_
          refine j_aload_n C dX3_leastCostOf_38 rfl ?_
          refine j_perm (pm_6_0_1_2_3_4_5 _ _ _ _ _ _) ?_
          refine j_callVv C (As := [.ref _]) (c_X3_measure _ _ _ _ _ _ _ _ _ _ ((nxt S x e z).1) ((nxt S x e z).2) (by first | assumption | omega) (by exact hnx.1) (by exact h31.1) (by exact h31.2)) 1 nf_X3_measure (jb := 0) rfl rfl wL_X3_28 wI_X3_measure wSe_X3_X3_measure wIn_X3 wC_X3_measure rfl rfl (by decide) dX3_leastCostOf_39 (Nat.le_of_ble_eq_true rfl) ⟨Nat.le_of_ble_eq_true rfl, Nat.le_of_ble_eq_true rfl⟩ (fun u39 h39 => ?_)
          refine j_perm (pr_6_0_1_2_3_4_5 _ _ _ _ _ _) ?_
          have hb1 := meas_Bd hI hnx.1
          refine j_aload_n C dX3_leastCostOf_42 rfl ?_
          refine j_perm (pm_6_0_2_3 _ _ _ _ _ _) ?_
          refine j_callVi C (As := []) (c_X3_nearestEnd _ _ _ _ _ _ ((nxt S x e z).2) ((meas S (nxt S x e z).1 (nxt S x e z).2).1) (by exact h31.2) (by exact fun q a b => (h39 q a b).1) (by exact hnx.1.2.2) (by exact hb1)) 0 nf_X3_nearestEnd (jb := 0) rfl rfl wL_X3_31 wI_X3_nearestEnd wSe_X3_X3_nearestEnd wIn_X3 wC_X3_nearestEnd rfl rfl (by decide) dX3_leastCostOf_43 (Nat.le_of_ble_eq_true rfl) ⟨Nat.le_of_ble_eq_true rfl, Nat.le_of_ble_eq_true rfl⟩ (fun x43 u43 h43 => ?_)
          refine j_perm (pr_6_0_2_3 _ _ _ _ _ _) ?_
          refine j_istn_3 C dX3_leastCostOf_46 rfl ?_
          refine j_goto (tgt := 17) C dX3_leastCostOf_47 (by decide) ?_
          exact ih17 _ _ ((nxt S x e z).1) ((nxt S x e z).2) _ _ _ _ (by omega) (by exact hnx.1) (by exact h31.1) (by exact h31.2) (by exact h39) (by exact h43) (by rw [← hC, show (40000 - w).toNat = (40000 - (w + 1)).toNat + 1 by omega, LX_s (by omega), ← hz]) (by omega)
  exact L17 _ _ _ (fun _ => 0) (ex0 S) _ _ _ _ (by omega) (by exact h00) (by exact hX0) (by exact hE0) (by exact h9) (by exact h13) (by rfl) (Nat.lt_succ_self _)
