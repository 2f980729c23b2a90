/-! the reference: how many rings there are, a ring of a number -/
theorem RG_rmn {D N : Int → Int} (h : N 0 = 0) : rmn D N 0 [] = RG D := by
  unfold rmn lv1
  show candF (okC D []) (fun p => E D 7 [p]) (7 - N 0).toNat = RG D
  rw [h, show okC D [] = fun _ => true from funext fun p => decide_eq_true (Or.inl rfl)]
  rfl
theorem dWn (S : Int → Int) (p : Int) : dW S (-1) p = dQ S p := by
  refine sumZ_congr (fun k a _ => ?_)
  by_cases c : di S k = 0 ∧ fr S k * 7 + tO S k = p
  · rw [if_pos ⟨by omega, c⟩, if_pos c]
  · rw [if_neg (fun q => c q.2), if_neg c]
theorem bW_none (S : Int → Int) (p r : Int) : bW S (-1) p r = bQ S p r := by
  refine sumZ_congr (fun k a _ => ?_)
  by_cases c : di S k = 0 ∧ fr S k * 7 + tO S k = p ∧ ra S k = r
  · rw [if_pos ⟨by omega, c⟩, if_pos c]
  · rw [if_neg (fun q => c q.2), if_neg c]
theorem RG_none (S : Int → Int) : RG (dW S (-1)) = RS S := by
  rw [show dW S (-1) = dQ S from funext (dWn S)]
  rfl
theorem dW_DZ {S D : Int → Int} {w : Int} (hI : Inv S) (h : ∀ p : Int, 0 ≤ p → p < 49 → D p = dW S w p) : DZ D (S 0) := by
  have hN := hI.2.1
  refine ⟨fun q a b => ?_, fun p q p0 p1 q0 q1 hh => ?_⟩
  · rw [h q a b]
    have := sumZ_bd (f := fun k => if k ≠ w ∧ di S k = 0 ∧ fr S k * 7 + tO S k = q then am S k else 0) (a := 0) (b := 1000) hN.1 (fun k h0 h1 => by
      have := (hI.2.2 k h0 h1).2.2.2.1
      split <;> omega)
    unfold dW
    omega
  · rw [h _ (by omega) (by omega)]
    have e : dW S w (7 * p + q) = sumZ (fun _ => 0) (S 1) := sumZ_congr (fun k a b => if_neg (by
      have f := hI.2.2 k a b
      have g := hI.1
      omega))
    have := sumZ_bd (f := fun _ => (0 : Int)) (a := 0) (b := 0) hN.1 (fun _ _ _ => ⟨Int.le_refl _, Int.le_refl _⟩)
    omega
theorem IT_0 {P : Int} {R N : Int → Int} (hP : 0 ≤ P) (h : N 0 = 0) : IT P R N [] := by
  refine ⟨fun k a b => ?_, ⟨by simp, fun y hy => absurd hy List.not_mem_nil⟩, List.nodup_nil, fun j a b => ?_⟩
  · have b2 : k < 0 := b
    omega
  · have b2 : j ≤ 0 := b
    rw [show j = 0 by omega, h]
    omega
/-- the debts as they were reckoned -/
def DBB (S D B : Int → Int) : Prop := (∀ p : Int, 0 ≤ p → p < 49 → D p = dQ S p) ∧ ∀ p r : Int, 0 ≤ p → p < 49 → 0 ≤ r → r < 10 → B (10 * p + r) = bQ S p r
/-- what a look at rings keeps of the reference's numbers -/
def KG (G G2 : Int → Int) : Prop := ∀ j : Int, j < 3 ∨ 7 < j → G2 j = G j
theorem KG_rfl (G : Int → Int) : KG G G := fun _ _ => rfl
theorem KG_tr {G G2 G3 : Int → Int} (h : KG G G2) (g : KG G2 G3) : KG G G3 := fun j hj => (g j hj).trans (h j hj)
theorem KG_st {G G2 : Int → Int} {i x : Int} (h : KG G G2) (hi : 3 ≤ i ∧ i ≤ 7) : KG G (st G2 i x) := fun j hj => (st_n (by omega)).trans (h j hj)
theorem pm_6_0_1_4_5_3 (B0 B1 B2 B3 B4 B5 : va_W) : [B0, B1, B2, B3, B4, B5].Perm ([B0, B1, B4, B5, B3] ++ [B2]) := List.Perm.trans (List.Perm.refl _) (List.Perm.trans (List.Perm.cons _ (List.Perm.refl _)) (List.Perm.trans (List.Perm.cons _ (List.Perm.cons _ (List.perm_middle (l₁ := [B2, B3]) (a := B4) (l₂ := [B5])))) (List.Perm.trans (List.Perm.cons _ (List.Perm.cons _ (List.Perm.cons _ (List.perm_middle (l₁ := [B2, B3]) (a := B5) (l₂ := []))))) (List.Perm.cons _ (List.Perm.cons _ (List.Perm.cons _ (List.Perm.cons _ (List.perm_middle (l₁ := [B2]) (a := B3) (l₂ := [])))))))))
theorem pr_6_0_1_4_5_3 (B0 B1 B2 B3 B4 B5 : va_W) : ([B0, B1, B4, B5, B3] ++ [B2]).Perm [B0, B1, B2, B3, B4, B5] := (pm_6_0_1_4_5_3 B0 B1 B2 B3 B4 B5).symm
theorem pm_6_0_2_3_4 (B0 B1 B2 B3 B4 B5 : va_W) : [B0, B1, B2, B3, B4, B5].Perm ([B0, B2, B3, B4] ++ [B1, B5]) := List.Perm.trans (List.Perm.refl _) (List.Perm.trans (List.Perm.cons _ (List.perm_middle (l₁ := [B1]) (a := B2) (l₂ := [B3, B4, B5]))) (List.Perm.trans (List.Perm.cons _ (List.Perm.cons _ (List.perm_middle (l₁ := [B1]) (a := B3) (l₂ := [B4, B5])))) (List.Perm.cons _ (List.Perm.cons _ (List.Perm.cons _ (List.perm_middle (l₁ := [B1]) (a := B4) (l₂ := [B5])))))))
theorem pr_6_0_2_3_4 (B0 B1 B2 B3 B4 B5 : va_W) : ([B0, B2, B3, B4] ++ [B1, B5]).Perm [B0, B1, B2, B3, B4, B5] := (pm_6_0_2_3_4 B0 B1 B2 B3 B4 B5).symm
set_option maxHeartbeats 4000000 in
set_option maxRecDepth 100000 in
theorem c_X6_countRings (l : Launch) (D : va_G) (cA : Nat → ClassId) (a : Nat → Nat) (q1 : Nat) (G S R N1 D1 B1 : Int → Int) (w : Int) (hI : Inv S) (hw : -1 ≤ w ∧ w < 40) : MI (U := (Int → Int) × (Int → Int) × (Int → Int) × (Int → Int)) l yX6_countRings cX6_countRings 4 (some .int) (rmN 4 0 0) D cA [.ref (a 0), .ref (q1), .int (iI w)] [mO a G, [(q1, aJ (cA 0) 325 S)], [(a 7, aJ (cA 0) 8 R)], [(a 8, aJ (cA 0) 9 N1)], [(a 5, aJ (cA 0) 49 D1)], [(a 6, aJ (cA 0) 490 B1)]] (fun x _ => x = rwO S w) (fun u => [mO a (st (st G 3 (S 0)) 4 0), [(q1, aJ (cA 0) 325 S)], [(a 7, aJ (cA 0) 8 u.1)], [(a 8, aJ (cA 0) 9 u.2.1)], [(a 5, aJ (cA 0) 49 u.2.2.1)], [(a 6, aJ (cA 0) 490 u.2.2.2)]]) := by
  refine m_startI pn_X6 rfl (List.forall_mem_cons.mpr ⟨rfl, List.forall_mem_cons.mpr ⟨rfl, List.forall_mem_cons.mpr ⟨rfl, fun _ h => absurd h List.not_mem_nil⟩⟩⟩) (Nat.le_of_ble_eq_true rfl) ?_
  intro K C e1 e2 e3 hin hR
  subst e1 e2 e3
  show J K 0 0 [mO a G, [(q1, aJ ((kC K) 0) 325 S)], [(a 7, aJ ((kC K) 0) 8 R)], [(a 8, aJ ((kC K) 0) 9 N1)], [(a 5, aJ ((kC K) 0) 49 D1)], [(a 6, aJ ((kC K) 0) 490 B1)]] [some (.ref (a 0)), some (.ref (q1)), some (.int (iI w)), none] 0 []
  refine j_aload_n C dX6_countRings_0 rfl ?_
  refine j_aload_n C dX6_countRings_1 rfl ?_
  refine j_iload_n C dX6_countRings_2 rfl ?_
  refine j_perm (pm_6_0_1_4_5_3 _ _ _ _ _ _) ?_
  refine j_callVv C (As := [.ref _, .int (iI _)]) (c_X6_begins _ _ _ _ _ _ _ _ _ _ _ (by exact hI) (by omega)) 2 nf_X6_begins (jb := 0) rfl rfl wL_X6_96 wI_X6_begins wSe_X6_X6_begins wIn_X6 wC_X6_begins rfl rfl (by decide) dX6_countRings_3 (Nat.le_of_ble_eq_true rfl) ⟨Nat.le_of_ble_eq_true rfl, Nat.le_of_ble_eq_true rfl⟩ (fun u3 h3 => ?_)
  refine j_perm (pr_6_0_1_4_5_3 _ _ _ _ _ _) ?_
  have hDZ := dW_DZ hI h3.1
  have hRG : RG u3.1 = RG (dW S w) := RG_congr h3.1
  refine j_iconst C dX6_countRings_6 ?_
  refine j_istn_3 C dX6_countRings_7 rfl ?_
  have L8 : ∀ (fuel : Nat) (n : Int) (G2 R2 N2 : Int → Int) (r2 : List Int) (hG2 : G2 = st (st G 3 (S 0)) 4 (r2.length : Int)) (hIT : IT (S 0) R2 N2 r2) (hn : n + ((rmn u3.1 N2 r2.length r2).length : Int) = rwO S w) (hf8 : (rmn u3.1 N2 r2.length r2).length < fuel), J K 0 0 [mO a G2, [(q1, aJ ((kC K) 0) 325 S)], [(a 7, aJ ((kC K) 0) 8 R2)], [(a 8, aJ ((kC K) 0) 9 N2)], [(a 5, aJ ((kC K) 0) 49 u3.1)], [(a 6, aJ ((kC K) 0) 490 u3.2)]] [some (.ref (a 0)), some (.ref (q1)), some (.int (iI w)), some (.int (iI n))] 8 [] := by
    intro fuel
    induction fuel with
    | zero => intro n G2 R2 N2 r2 hG2 hIT hn hf8; exact absurd hf8 (Nat.not_lt_zero _)
    | succ fuel ih8 =>
      intro n G2 R2 N2 r2 hG2 hIT hn hf8
      have e3 : G2 3 = S 0 := by rw [hG2, st_n (by omega)]; exact st_s _ _ _
      refine j_aload_n C dX6_countRings_8 rfl ?_
      refine j_perm (pm_6_0_2_3_4 _ _ _ _ _ _) ?_
      refine j_callVi C (As := []) (c_X6_comes _ _ _ _ _ _ _ _ (r2) (by rw [hG2]; exact st_s _ _ _) (by rw [e3]; exact hI.1) (by rw [e3]; exact hDZ) (by rw [e3]; exact hIT)) 0 nf_X6_comes (jb := 0) rfl rfl wL_X6_100 wI_X6_comes wSe_X6_X6_comes wIn_X6 wC_X6_comes rfl rfl (by decide) dX6_countRings_9 (Nat.le_of_ble_eq_true rfl) ⟨Nat.le_of_ble_eq_true rfl, Nat.le_of_ble_eq_true rfl⟩ (fun x9 u9 h9 => ?_)
      refine j_perm (pr_6_0_2_3_4 _ _ _ _ _ _) ?_
      obtain ⟨hIT2, hcm⟩ := h9
      rw [e3] at hIT2
      refine j_if_eq (tgt := 21) C dX6_countRings_12 (by decide) (by omega) (by omega) (fun c12 => ?_) (fun c12 => ?_)
      · have hcz : rmn u3.1 N2 r2.length r2 = [] ∧ u9.2.2 = [] := by
          rcases hcm with q | q
          · exact q.2
          · omega
        rw [hcz.1, List.length_nil] at hn
        refine j_iload_n C dX6_countRings_21 rfl ?_
        exact hR (u9.1, u9.2.1, u3.1, u3.2) dX6_countRings_22 (by omega) (by rw [hcz.2, hG2, st_st]; rfl) (Nat.le_of_ble_eq_true rfl) (Nat.le_of_ble_eq_true rfl)
      · have hcn : rmn u3.1 N2 r2.length r2 = u9.2.2 :: rmn u3.1 u9.2.1 u9.2.2.length u9.2.2 := by
          rcases hcm with q | q
          · exact absurd q.1 c12
          · exact q.2
        refine j_iinc_3 C dX6_countRings_15 rfl ?_
        refine j_goto (tgt := 8) C dX6_countRings_18 (by decide) ?_
        exact ih8 _ _ _ _ (u9.2.2) (by rw [hG2, st_st]) (by exact hIT2) (by rw [← hn, hcn, List.length_cons]; omega) (by rw [hcn, List.length_cons] at hf8; omega)
  exact L8 _ _ _ _ _ ([]) (by rfl) (by exact IT_0 (by have := hI.1; omega) (st_s _ _ _)) (by unfold rwO; rw [← hRG, show ([] : List Int).length = 0 from rfl, RG_rmn (st_s _ _ _)]; omega) (Nat.lt_succ_self _)
set_option maxHeartbeats 4000000 in
set_option maxRecDepth 100000 in
theorem c_X6_findsRing (l : Launch) (D : va_G) (cA : Nat → ClassId) (a : Nat → Nat) (G M R N1 D1 B1 : Int → Int) (j : Int) (hI : Inv M) (hj : -2147483648 ≤ j ∧ j < 2147483648) : MI (U := (Int → Int) × (Int → Int) × (Int → Int) × (Int → Int) × (Int → Int)) l yX6_findsRing cX6_findsRing 3 (some .boolean) (rmN 4 0 0) D cA [.ref (a 0), .int (iI j)] [mO a G, [(a 1, aJ (cA 0) 325 M)], [(a 7, aJ (cA 0) 8 R)], [(a 8, aJ (cA 0) 9 N1)], [(a 5, aJ (cA 0) 49 D1)], [(a 6, aJ (cA 0) 490 B1)]] (fun x u => KG G u.1 ∧ ((x = 1 ∧ (0 ≤ j ∧ j < ((RS M).length : Int)) ∧ (u.1 4 = (((RS M).getD j.toNat []).length : Int) ∧ RWS u.2.1 ((RS M).getD j.toNat [])) ∧ DBB M u.2.2.2.1 u.2.2.2.2) ∨ (x = 0 ∧ ¬ (0 ≤ j ∧ j < ((RS M).length : Int))))) (fun u => [mO a u.1, [(a 1, aJ (cA 0) 325 M)], [(a 7, aJ (cA 0) 8 u.2.1)], [(a 8, aJ (cA 0) 9 u.2.2.1)], [(a 5, aJ (cA 0) 49 u.2.2.2.1)], [(a 6, aJ (cA 0) 490 u.2.2.2.2)]]) := by
  refine m_startZ pn_X6 rfl (List.forall_mem_cons.mpr ⟨rfl, List.forall_mem_cons.mpr ⟨rfl, fun _ h => absurd h List.not_mem_nil⟩⟩) (Nat.le_of_ble_eq_true rfl) ?_
  intro K C e1 e2 e3 hin hR
  subst e1 e2 e3
  show J K 0 0 [mO a G, [(a 1, aJ ((kC K) 0) 325 M)], [(a 7, aJ ((kC K) 0) 8 R)], [(a 8, aJ ((kC K) 0) 9 N1)], [(a 5, aJ ((kC K) 0) 49 D1)], [(a 6, aJ ((kC K) 0) 490 B1)]] [some (.ref (a 0)), some (.int (iI j)), none] 0 []
  refine j_iload_n C dX6_findsRing_0 rfl ?_
  refine j_if_ge (tgt := 6) C dX6_findsRing_1 (by decide) (by omega) (by omega) (fun c1 => ?_) (fun c1 => ?_)
  · refine j_aload_n C dX6_findsRing_6 rfl ?_
    refine j_aload_n C dX6_findsRing_7 rfl ?_
    refine j_get C 0 0 0 rfl rfl rfl wU_X6 (by decide) wF_X6_7 rfl dX6_findsRing_8 ?_
    refine j_iconst C dX6_findsRing_11 ?_
    refine j_perm (pm_6_0_1_4_5_3 _ _ _ _ _ _) ?_
    refine j_callVv C (As := [.ref _, .int (iI _)]) (c_X6_begins _ _ _ _ _ _ _ _ _ _ _ (by exact hI) (by omega)) 2 nf_X6_begins (jb := 0) rfl rfl wL_X6_96 wI_X6_begins wSe_X6_X6_begins wIn_X6 wC_X6_begins rfl rfl (by decide) dX6_findsRing_12 (Nat.le_of_ble_eq_true rfl) ⟨Nat.le_of_ble_eq_true rfl, Nat.le_of_ble_eq_true rfl⟩ (fun u12 h12 => ?_)
    refine j_perm (pr_6_0_1_4_5_3 _ _ _ _ _ _) ?_
    have hDZ := dW_DZ hI h12.1
    have hRG : RG u12.1 = RS M := (RG_congr h12.1).trans (RG_none M)
    have hRl := RS_len hI
    refine j_iconst C dX6_findsRing_15 ?_
    refine j_istn_2 C dX6_findsRing_16 rfl ?_
    have L17 : ∀ (fuel : Nat) (n : Int) (G2 R2 N2 : Int → Int) (r2 : List Int) (L : List (List Int)) (hG2 : G2 = st (st G 3 (M 0)) 4 (r2.length : Int)) (hIT : IT (M 0) R2 N2 r2) (hL : (L.length : Int) = n) (hn : L ++ rmn u12.1 N2 r2.length r2 = RS M) (hnj : n ≤ j) (hf17 : (rmn u12.1 N2 r2.length r2).length < fuel), J K 0 0 [mO a G2, [(a 1, aJ ((kC K) 0) 325 M)], [(a 7, aJ ((kC K) 0) 8 R2)], [(a 8, aJ ((kC K) 0) 9 N2)], [(a 5, aJ ((kC K) 0) 49 u12.1)], [(a 6, aJ ((kC K) 0) 490 u12.2)]] [some (.ref (a 0)), some (.int (iI j)), some (.int (iI n))] 17 [] := by
      intro fuel
      induction fuel with
      | zero => intro n G2 R2 N2 r2 L hG2 hIT hL hn hnj hf17; exact absurd hf17 (Nat.not_lt_zero _)
      | succ fuel ih17 =>
        intro n G2 R2 N2 r2 L hG2 hIT hL hn hnj hf17
        have e3 : G2 3 = M 0 := by rw [hG2, st_n (by omega)]; exact st_s _ _ _
        have hLl : (L.length : Int) + ((rmn u12.1 N2 r2.length r2).length : Int) = ((RS M).length : Int) := by rw [← hn, List.length_append]; omega
        refine j_aload_n C dX6_findsRing_17 rfl ?_
        refine j_perm (pm_6_0_2_3_4 _ _ _ _ _ _) ?_
        refine j_callVi C (As := []) (c_X6_comes _ _ _ _ _ _ _ _ (r2) (by rw [hG2]; exact st_s _ _ _) (by rw [e3]; exact hI.1) (by rw [e3]; exact hDZ) (by rw [e3]; exact hIT)) 0 nf_X6_comes (jb := 0) rfl rfl wL_X6_100 wI_X6_comes wSe_X6_X6_comes wIn_X6 wC_X6_comes rfl rfl (by decide) dX6_findsRing_18 (Nat.le_of_ble_eq_true rfl) ⟨Nat.le_of_ble_eq_true rfl, Nat.le_of_ble_eq_true rfl⟩ (fun x18 u18 h18 => ?_)
        refine j_perm (pr_6_0_2_3_4 _ _ _ _ _ _) ?_
        obtain ⟨hIT2, hcm⟩ := h18
        rw [e3] at hIT2
        refine j_if_eq (tgt := 37) C dX6_findsRing_21 (by decide) (by omega) (by omega) (fun c21 => ?_) (fun c21 => ?_)
        · have hcz : rmn u12.1 N2 r2.length r2 = [] ∧ u18.2.2 = [] := by
            rcases hcm with q | q
            · exact q.2
            · omega
          rw [hcz.1, List.length_nil] at hLl
          refine j_iconst C dX6_findsRing_37 ?_
          refine hR (st G2 4 (u18.2.2.length : Int), u18.1, u18.2.1, u12.1, u12.2) dX6_findsRing_38 (by omega) ?_ rfl (Nat.le_of_ble_eq_true rfl) (Nat.le_of_ble_eq_true rfl)
          refine ⟨?_, Or.inr ⟨rfl, by omega⟩⟩
          show KG G (st G2 4 _)
          rw [hG2]
          exact KG_st (KG_st (KG_st (KG_rfl G) (by omega)) (by omega)) (by omega)
        · have hcn : rmn u12.1 N2 r2.length r2 = u18.2.2 :: rmn u12.1 u18.2.1 u18.2.2.length u18.2.2 := by
            rcases hcm with q | q
            · exact absurd q.1 c21
            · exact q.2
          refine j_iload_n C dX6_findsRing_24 rfl ?_
          refine j_iload_n C dX6_findsRing_25 rfl ?_
          refine j_icmp_ne (tgt := 31) C dX6_findsRing_26 (by decide) (by omega) (by omega) (by omega) (by omega) (fun c26 => ?_) (fun c26 => ?_)
          · refine j_iinc_2 C dX6_findsRing_31 rfl ?_
            refine j_goto (tgt := 17) C dX6_findsRing_34 (by decide) ?_
            exact ih17 _ _ _ _ (u18.2.2) (L ++ [u18.2.2]) (by rw [hG2, st_st]) (by exact hIT2) (by rw [List.length_append, List.length_singleton]; omega) (by rw [← hn, hcn, List.append_assoc]; rfl) (by omega) (by rw [hcn, List.length_cons] at hf17; omega)
          · refine j_iconst C dX6_findsRing_29 ?_
            have hjl : j < ((RS M).length : Int) := by rw [hcn, List.length_cons] at hLl; omega
            have hget : (RS M).getD j.toNat [] = u18.2.2 := by
              rw [← hn, hcn, List.getD_eq_getElem?_getD, List.getElem?_append_right (by omega), show j.toNat - L.length = 0 by omega]
              rfl
            refine hR (st G2 4 (u18.2.2.length : Int), u18.1, u18.2.1, u12.1, u12.2) dX6_findsRing_30 (by omega) ?_ rfl (Nat.le_of_ble_eq_true rfl) (Nat.le_of_ble_eq_true rfl)
            refine ⟨?_, Or.inl ⟨rfl, ⟨by omega, hjl⟩, ⟨?_, ?_⟩, ?_, ?_⟩⟩
            · show KG G (st G2 4 _)
              rw [hG2]
              exact KG_st (KG_st (KG_st (KG_rfl G) (by omega)) (by omega)) (by omega)
            · show st G2 4 (u18.2.2.length : Int) 4 = _
              rw [hget]
              exact st_s _ _ _
            · rw [hget]; exact hIT2.1
            · exact fun p p0 p1 => (h12.1 p p0 p1).trans (dWn M p)
            · exact fun p r p0 p1 r0 r1 => (h12.2 p r p0 p1 r0 r1).trans (bW_none M p r)
    exact L17 _ _ _ _ _ ([]) ([]) (by rfl) (by exact IT_0 (by have := hI.1; omega) (st_s _ _ _)) (by rfl) (by rw [List.nil_append, show ([] : List Int).length = 0 from rfl, RG_rmn (st_s _ _ _)]; exact hRG) (by omega) (Nat.lt_succ_self _)
  · refine j_iconst C dX6_findsRing_4 ?_
    refine hR (G, R, N1, D1, B1) dX6_findsRing_5 (by omega) ?_ rfl (Nat.le_of_ble_eq_true rfl) (Nat.le_of_ble_eq_true rfl)
    exact ⟨KG_rfl G, Or.inr ⟨rfl, by omega⟩⟩
