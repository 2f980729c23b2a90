/-! the reference: the best ring, its discharge, discharging all -/
theorem rmC_cg {d d' : Int → Int} {l : List Int} (h : ∀ q ∈ l, d q = d' q) : rmC d l = rmC d' l := by
  by_cases c : l = []
  · rw [c]; rfl
  · refine rmC_uniq c (fun x hx => ?_) ?_
    · rw [← h x hx]
      exact rmC_le x hx
    · obtain ⟨x, hx, e⟩ := rmC_mem (d := d) c
      exact ⟨x, hx, e.trans (h x hx)⟩
theorem RS_PR {S : Int → Int} {r : List Int} (h : r ∈ RS S) : PR (dQ S) r := RG_mem h
theorem room_D {S D : Int → Int} {r : List Int} (h : ∀ p : Int, 0 ≤ p → p < 49 → D p = dQ S p) (hr : PV r) : rmC D (prs r) = room S r := rmC_cg (fun q hq => h q (prs_in hr q hq).1 (prs_in hr q hq).2)
theorem sumN_mono {f g : Int → Int} : ∀ n : Nat, (∀ k : Int, 0 ≤ k → k < n → f k ≤ g k) → sumN f n ≤ sumN g n
  | 0, _ => Int.le_refl _
  | n + 1, h => by
    have h1 := sumN_mono n (fun k a b => h k a (by omega))
    have h2 := h n (by omega) (by omega)
    rw [sumN, sumN]
    omega
theorem sumN_lt {f g : Int → Int} : ∀ n : Nat, (∀ k : Int, 0 ≤ k → k < n → f k ≤ g k) → (∃ k : Int, 0 ≤ k ∧ k < n ∧ f k < g k) → sumN f n < sumN g n
  | 0, _, h => by
    obtain ⟨k, a, b, _⟩ := h
    omega
  | n + 1, h, ⟨k, a, b, c⟩ => by
    have h2 := h n (by omega) (by omega)
    rw [sumN, sumN]
    by_cases e : k = n
    · have h1 := sumN_mono n (fun k a b => h k a (by omega))
      rw [e] at c
      omega
    · have h1 := sumN_lt n (fun k a b => h k a (by omega)) ⟨k, a, by omega, c⟩
      omega
/-- how many debts there are -/
def cntD (T : Int → Int) : Nat := (sumN (fun q => if 0 < dQ T q then 1 else 0) 49).toNat
theorem cntD_le (T : Int → Int) : cntD T ≤ 49 := by
  have := sumN_bd (f := fun q => if 0 < dQ T q then (1 : Int) else 0) (a := 0) (b := 1) 49 (fun k _ _ => by split <;> omega)
  unfold cntD
  omega
theorem cntD_lt {T : Int → Int} (hI : Inv T) (hb : best T ≠ -1) : cntD (disB T) < cntD T := by
  have hr0 := best_rng T
  have hP := RS_get (S := T) (i := best T) (by omega) (by omega)
  have hrm := room_bd hI hP
  have hd := fun q => disR_d (r := (RS T).getD (best T).toNat []) hI hP.1 (show 0 ≤ room T ((RS T).getD (best T).toNat []) by omega) (fun q hq => rmC_le (d := dQ T) q hq) q
  have hnn : 0 ≤ sumN (fun q => if 0 < dQ (disB T) q then (1 : Int) else 0) 49 := (sumN_nn 49 (fun k _ _ => by split <;> omega))
  have hlt : sumN (fun q => if 0 < dQ (disB T) q then (1 : Int) else 0) 49 < sumN (fun q => if 0 < dQ T q then (1 : Int) else 0) 49 := by
    refine sumN_lt 49 (fun q a b => ?_) ?_
    · have e : dQ (disB T) q = _ := hd q
      have e5 : dQ (disB T) q ≤ dQ T q := by
        rw [e]
        split <;> omega
      split <;> split <;> omega
    · obtain ⟨q, hq, e⟩ := rmC_mem (d := dQ T) (prs_ne hP.1)
      have hq49 := prs_in hP.1 q hq
      refine ⟨q, hq49.1, hq49.2, ?_⟩
      have e2 : dQ (disB T) q = _ := hd q
      have e3 : room T ((RS T).getD (best T).toNat []) = dQ T q := e
      have e4 := hP.2 q hq
      rw [e2, if_pos hq, if_neg (by omega), if_pos e4]
      omega
  unfold cntD
  omega
theorem disA_end {T : Int → Int} (hb : best T = -1) (n : Int) : ∀ k : Nat, disA k T n = (T, n)
  | 0 => rfl
  | k + 1 => by
    rw [disA, if_pos hb]
/-- the best that was noted -/
def BN (M G BR : Int → Int) (n : Int) : Prop := (G 5 = -1 ∧ G 6 = 0) ∨ ((0 ≤ G 5 ∧ G 5 < n) ∧ (0 ≤ G 6 ∧ G 6 ≤ 2520000) ∧ G 7 = (((RS M).getD (G 5).toNat []).length : Int) ∧ RWS BR ((RS M).getD (G 5).toNat []))
theorem pm_6_0_1_2_4 (B0 B1 B2 B3 B4 B5 : va_W) : [B0, B1, B2, B3, B4, B5].Perm ([B0, B1, B2, B4] ++ [B3, B5]) := List.Perm.trans (List.Perm.refl _) (List.Perm.trans (List.Perm.cons _ (List.Perm.refl _)) (List.Perm.trans (List.Perm.cons _ (List.Perm.cons _ (List.Perm.refl _))) (List.Perm.cons _ (List.Perm.cons _ (List.Perm.cons _ (List.perm_middle (l₁ := [B3]) (a := B4) (l₂ := [B5])))))))
theorem pr_6_0_1_2_4 (B0 B1 B2 B3 B4 B5 : va_W) : ([B0, B1, B2, B4] ++ [B3, B5]).Perm [B0, B1, B2, B3, B4, B5] := (pm_6_0_1_2_4 B0 B1 B2 B3 B4 B5).symm
theorem pm_7_0_1_2_4_5_6 (B0 B1 B2 B3 B4 B5 B6 : va_W) : [B0, B1, B2, B3, B4, B5, B6].Perm ([B0, B1, B2, B4, B5, B6] ++ [B3]) := List.Perm.trans (List.Perm.refl _) (List.Perm.trans (List.Perm.cons _ (List.Perm.refl _)) (List.Perm.trans (List.Perm.cons _ (List.Perm.cons _ (List.Perm.refl _))) (List.Perm.trans (List.Perm.cons _ (List.Perm.cons _ (List.Perm.cons _ (List.perm_middle (l₁ := [B3]) (a := B4) (l₂ := [B5, B6]))))) (List.Perm.trans (List.Perm.cons _ (List.Perm.cons _ (List.Perm.cons _ (List.Perm.cons _ (List.perm_middle (l₁ := [B3]) (a := B5) (l₂ := [B6])))))) (List.Perm.cons _ (List.Perm.cons _ (List.Perm.cons _ (List.Perm.cons _ (List.Perm.cons _ (List.perm_middle (l₁ := [B3]) (a := B6) (l₂ := [])))))))))))
theorem pr_7_0_1_2_4_5_6 (B0 B1 B2 B3 B4 B5 B6 : va_W) : ([B0, B1, B2, B4, B5, B6] ++ [B3]).Perm [B0, B1, B2, B3, B4, B5, B6] := (pm_7_0_1_2_4_5_6 B0 B1 B2 B3 B4 B5 B6).symm
theorem pm_7_0_1_4_5_3 (B0 B1 B2 B3 B4 B5 B6 : va_W) : [B0, B1, B2, B3, B4, B5, B6].Perm ([B0, B1, B4, B5, B3] ++ [B2, B6]) := List.Perm.trans (List.Perm.refl _) (List.Perm.trans (List.Perm.cons _ (List.Perm.refl _)) (List.Perm.trans (List.Perm.cons _ (List.Perm.cons _ (List.perm_middle (l₁ := [B2, B3]) (a := B4) (l₂ := [B5, B6])))) (List.Perm.trans (List.Perm.cons _ (List.Perm.cons _ (List.Perm.cons _ (List.perm_middle (l₁ := [B2, B3]) (a := B5) (l₂ := [B6]))))) (List.Perm.cons _ (List.Perm.cons _ (List.Perm.cons _ (List.Perm.cons _ (List.perm_middle (l₁ := [B2]) (a := B3) (l₂ := [B6])))))))))
theorem pr_7_0_1_4_5_3 (B0 B1 B2 B3 B4 B5 B6 : va_W) : ([B0, B1, B4, B5, B3] ++ [B2, B6]).Perm [B0, B1, B2, B3, B4, B5, B6] := (pm_7_0_1_4_5_3 B0 B1 B2 B3 B4 B5 B6).symm
theorem pm_7_0_2_3_4 (B0 B1 B2 B3 B4 B5 B6 : va_W) : [B0, B1, B2, B3, B4, B5, B6].Perm ([B0, B2, B3, B4] ++ [B1, B5, B6]) := List.Perm.trans (List.Perm.refl _) (List.Perm.trans (List.Perm.cons _ (List.perm_middle (l₁ := [B1]) (a := B2) (l₂ := [B3, B4, B5, B6]))) (List.Perm.trans (List.Perm.cons _ (List.Perm.cons _ (List.perm_middle (l₁ := [B1]) (a := B3) (l₂ := [B4, B5, B6])))) (List.Perm.cons _ (List.Perm.cons _ (List.Perm.cons _ (List.perm_middle (l₁ := [B1]) (a := B4) (l₂ := [B5, B6])))))))
theorem pr_7_0_2_3_4 (B0 B1 B2 B3 B4 B5 B6 : va_W) : ([B0, B2, B3, B4] ++ [B1, B5, B6]).Perm [B0, B1, B2, B3, B4, B5, B6] := (pm_7_0_2_3_4 B0 B1 B2 B3 B4 B5 B6).symm
theorem pm_7_0_2_4 (B0 B1 B2 B3 B4 B5 B6 : va_W) : [B0, B1, B2, B3, B4, B5, B6].Perm ([B0, B2, B4] ++ [B1, B3, B5, B6]) := List.Perm.trans (List.Perm.refl _) (List.Perm.trans (List.Perm.cons _ (List.perm_middle (l₁ := [B1]) (a := B2) (l₂ := [B3, B4, B5, B6]))) (List.Perm.cons _ (List.Perm.cons _ (List.perm_middle (l₁ := [B1, B3]) (a := B4) (l₂ := [B5, B6])))))
theorem pr_7_0_2_4 (B0 B1 B2 B3 B4 B5 B6 : va_W) : ([B0, B2, B4] ++ [B1, B3, B5, B6]).Perm [B0, B1, B2, B3, B4, B5, B6] := (pm_7_0_2_4 B0 B1 B2 B3 B4 B5 B6).symm
theorem pm_7_0_2_5 (B0 B1 B2 B3 B4 B5 B6 : va_W) : [B0, B1, B2, B3, B4, B5, B6].Perm ([B0, B2, B5] ++ [B1, B3, B4, B6]) := List.Perm.trans (List.Perm.refl _) (List.Perm.trans (List.Perm.cons _ (List.perm_middle (l₁ := [B1]) (a := B2) (l₂ := [B3, B4, B5, B6]))) (List.Perm.cons _ (List.Perm.cons _ (List.perm_middle (l₁ := [B1, B3, B4]) (a := B5) (l₂ := [B6])))))
theorem pr_7_0_2_5 (B0 B1 B2 B3 B4 B5 B6 : va_W) : ([B0, B2, B5] ++ [B1, B3, B4, B6]).Perm [B0, B1, B2, B3, B4, B5, B6] := (pm_7_0_2_5 B0 B1 B2 B3 B4 B5 B6).symm
set_option maxHeartbeats 4000000 in
set_option maxRecDepth 100000 in
theorem c_X6_findsBest (l : Launch) (D : va_G) (cA : Nat → ClassId) (a : Nat → Nat) (q1 : Nat) (G M R N1 D1 B1 BR : Int → Int) (hI : Inv M) : MI (U := (Int → Int) × (Int → Int) × (Int → Int) × (Int → Int) × (Int → Int) × (Int → Int)) l yX6_findsBest cX6_findsBest 5 (some .boolean) (rmN 5 0 0) D cA [.ref (a 0), .ref (q1)] [mO a G, [(q1, aJ (cA 0) 325 M)], [(a 7, aJ (cA 0) 8 R)], [(a 8, aJ (cA 0) 9 N1)], [(a 5, aJ (cA 0) 49 D1)], [(a 6, aJ (cA 0) 490 B1)], [(a 9, aJ (cA 0) 8 BR)]] (fun x u => KG G u.1 ∧ (u.1 5 = best M ∧ u.1 6 = bestV M) ∧ DBB M u.2.2.2.1 u.2.2.2.2.1 ∧ (x = if best M = -1 then 0 else 1) ∧ (best M ≠ -1 → u.1 7 = (((RS M).getD (best M).toNat []).length : Int) ∧ RWS u.2.2.2.2.2 ((RS M).getD (best M).toNat []))) (fun u => [mO a u.1, [(q1, aJ (cA 0) 325 M)], [(a 7, aJ (cA 0) 8 u.2.1)], [(a 8, aJ (cA 0) 9 u.2.2.1)], [(a 5, aJ (cA 0) 49 u.2.2.2.1)], [(a 6, aJ (cA 0) 490 u.2.2.2.2.1)], [(a 9, aJ (cA 0) 8 u.2.2.2.2.2)]]) := by
  refine m_startZ pn_X6 rfl (List.forall_mem_cons.mpr ⟨rfl, List.forall_mem_cons.mpr ⟨rfl, fun _ h => absurd h List.not_mem_nil⟩⟩) (Nat.le_of_ble_eq_true rfl) ?_
  intro K C e1 e2 e3 hin hR
  subst e1 e2 e3
  show J K 0 0 [mO a G, [(q1, aJ ((kC K) 0) 325 M)], [(a 7, aJ ((kC K) 0) 8 R)], [(a 8, aJ ((kC K) 0) 9 N1)], [(a 5, aJ ((kC K) 0) 49 D1)], [(a 6, aJ ((kC K) 0) 490 B1)], [(a 9, aJ ((kC K) 0) 8 BR)]] [some (.ref (a 0)), some (.ref (q1)), none, none, none] 0 []
  refine j_aload_n C dX6_findsBest_0 rfl ?_
  refine j_aload_n C dX6_findsBest_1 rfl ?_
  refine j_iconst C dX6_findsBest_2 ?_
  refine j_perm (pm_7_0_1_4_5_3 _ _ _ _ _ _ _) ?_
  refine j_callVv C (As := [.ref _, .int (iI _)]) (c_X6_begins _ _ _ _ _ _ _ _ _ _ _ (by exact hI) (by omega)) 2 nf_X6_begins (jb := 0) rfl rfl wL_X6_96 wI_X6_begins wSe_X6_X6_begins wIn_X6 wC_X6_begins rfl rfl (by decide) dX6_findsBest_3 (Nat.le_of_ble_eq_true rfl) ⟨Nat.le_of_ble_eq_true rfl, Nat.le_of_ble_eq_true rfl⟩ (fun u3 h3 => ?_)
  refine j_perm (pr_7_0_1_4_5_3 _ _ _ _ _ _ _) ?_
  have hDZ := dW_DZ hI h3.1
  have hDQ : ∀ p : Int, 0 ≤ p → p < 49 → u3.1 p = dQ M p := fun p p0 p1 => (h3.1 p p0 p1).trans (dWn M p)
  have hBQ : ∀ p r : Int, 0 ≤ p → p < 49 → 0 ≤ r → r < 10 → u3.2 (10 * p + r) = bQ M p r := fun p r p0 p1 r0 r1 => (h3.2 p r p0 p1 r0 r1).trans (bW_none M p r)
  have hRG : RG u3.1 = RS M := (RG_congr h3.1).trans (RG_none M)
  have hRl := RS_len hI
  refine j_aload_n C dX6_findsBest_6 rfl ?_
  refine j_iconst C dX6_findsBest_7 ?_
  refine j_put_p0 C 0 13 rfl mO_put5 rfl wU_X6 tyX6_ok nmX6 (by decide) wF_X6_121 rfl rfl rfl (Nat.le_of_ble_eq_true rfl) dX6_findsBest_8 ?_
  refine j_aload_n C dX6_findsBest_11 rfl ?_
  refine j_iconst C dX6_findsBest_12 ?_
  refine j_put_p0 C 0 14 rfl mO_put6 rfl wU_X6 tyX6_ok nmX6 (by decide) wF_X6_124 rfl rfl rfl (Nat.le_of_ble_eq_true rfl) dX6_findsBest_13 ?_
  refine j_iconst C dX6_findsBest_16 ?_
  refine j_istn_2 C dX6_findsBest_17 rfl ?_
  have L18 : ∀ (fuel : Nat) (n : Int) (G2 R2 N2 BR2 : Int → Int) (r2 : List Int) (L : List (List Int)) (hG4 : G2 4 = (r2.length : Int)) (hG3 : G2 3 = M 0) (hK : KG G G2) (hIT : IT (M 0) R2 N2 r2) (hL : (L.length : Int) = n) (hn : L ++ rmn u3.1 N2 r2.length r2 = RS M) (hbs : bs (sav M) (rmn u3.1 N2 r2.length r2) n (G2 5) (G2 6) = bs (sav M) (RS M) 0 (-1) 0) (hb : BN M G2 BR2 n) (hf18 : (rmn u3.1 N2 r2.length r2).length < fuel), J K 0 0 [mO a G2, [(q1, aJ ((kC K) 0) 325 M)], [(a 7, aJ ((kC K) 0) 8 R2)], [(a 8, aJ ((kC K) 0) 9 N2)], [(a 5, aJ ((kC K) 0) 49 u3.1)], [(a 6, aJ ((kC K) 0) 490 u3.2)], [(a 9, aJ ((kC K) 0) 8 BR2)]] [some (.ref (a 0)), some (.ref (q1)), some (.int (iI n)), none, none] 18 [] := by
    intro fuel
    induction fuel with
    | zero => intro n G2 R2 N2 BR2 r2 L hG4 hG3 hK hIT hL hn hbs hb hf18; exact absurd hf18 (Nat.not_lt_zero _)
    | succ fuel ih18 =>
      intro n G2 R2 N2 BR2 r2 L hG4 hG3 hK hIT hL hn hbs hb hf18
      have hLl : (L.length : Int) + ((rmn u3.1 N2 r2.length r2).length : Int) = ((RS M).length : Int) := by rw [← hn, List.length_append]; omega
      have hb56 : -1 ≤ G2 5 ∧ G2 5 ≤ 2400 ∧ 0 ≤ G2 6 ∧ G2 6 ≤ 2520000 := by rcases hb with q | q <;> omega
      refine j_aload_n C dX6_findsBest_18 rfl ?_
      refine j_perm (pm_7_0_2_3_4 _ _ _ _ _ _ _) ?_
      refine j_callVi C (As := []) (c_X6_comes _ _ _ _ _ _ _ _ (r2) (by exact hG4) (by rw [hG3]; exact hI.1) (by rw [hG3]; exact hDZ) (by rw [hG3]; exact hIT)) 0 nf_X6_comes (jb := 0) rfl rfl wL_X6_100 wI_X6_comes wSe_X6_X6_comes wIn_X6 wC_X6_comes rfl rfl (by decide) dX6_findsBest_19 (Nat.le_of_ble_eq_true rfl) ⟨Nat.le_of_ble_eq_true rfl, Nat.le_of_ble_eq_true rfl⟩ (fun x19 u19 h19 => ?_)
      refine j_perm (pr_7_0_2_3_4 _ _ _ _ _ _ _) ?_
      obtain ⟨hIT2, hcm⟩ := h19
      rw [hG3] at hIT2
      refine j_if_eq (tgt := 106) C dX6_findsBest_22 (by decide) (by omega) (by omega) (fun c22 => ?_) (fun c22 => ?_)
      · have hcz : rmn u3.1 N2 r2.length r2 = [] ∧ u19.2.2 = [] := by
          rcases hcm with q | q
          · exact q.2
          · omega
        rw [hcz.1, bs] at hbs
        have hbest : G2 5 = best M := congrArg Prod.fst hbs
        have hbestV : G2 6 = bestV M := congrArg Prod.snd hbs
        have e106 : st G2 4 (u19.2.2.length : Int) 5 = G2 5 := st_n (by omega)
        have e107 : st G2 4 (u19.2.2.length : Int) 6 = G2 6 := st_n (by omega)
        have e108 : st G2 4 (u19.2.2.length : Int) 7 = G2 7 := st_n (by omega)
        refine j_aload_n C dX6_findsBest_106 rfl ?_
        refine j_get C 0 0 13 rfl rfl rfl wU_X6 (by decide) wF_X6_121 rfl dX6_findsBest_107 ?_
        refine j_iconst C dX6_findsBest_110 ?_
        refine j_icmp_eq (tgt := 118) C dX6_findsBest_111 (by decide) (by omega) (by omega) (by omega) (by omega) (fun c111 => ?_) (fun c111 => ?_)
        · refine j_iconst C dX6_findsBest_118 ?_
          refine hR (st G2 4 (u19.2.2.length : Int), u19.1, u19.2.1, u3.1, u3.2, BR2) dX6_findsBest_119 (by omega) ?_ rfl (Nat.le_of_ble_eq_true rfl) (Nat.le_of_ble_eq_true rfl)
          refine ⟨KG_st hK (by omega), ⟨e106.trans hbest, e107.trans hbestV⟩, ⟨hDQ, hBQ⟩, ?_, fun q => ?_⟩
          · first | (rw [if_pos (by omega)]; done) | (rw [if_neg (by omega)]; done)
          · rcases hb with z | z
            · omega
            · rw [hbest] at z
              exact ⟨e108.trans z.2.2.1, z.2.2.2⟩
        · refine j_iconst C dX6_findsBest_114 ?_
          refine j_goto (tgt := 119) C dX6_findsBest_115 (by decide) ?_
          refine hR (st G2 4 (u19.2.2.length : Int), u19.1, u19.2.1, u3.1, u3.2, BR2) dX6_findsBest_119 (by omega) ?_ rfl (Nat.le_of_ble_eq_true rfl) (Nat.le_of_ble_eq_true rfl)
          refine ⟨KG_st hK (by omega), ⟨e106.trans hbest, e107.trans hbestV⟩, ⟨hDQ, hBQ⟩, ?_, fun q => ?_⟩
          · first | (rw [if_pos (by omega)]; done) | (rw [if_neg (by omega)]; done)
          · rcases hb with z | z
            · omega
            · rw [hbest] at z
              exact ⟨e108.trans z.2.2.1, z.2.2.2⟩
      · have hcn : rmn u3.1 N2 r2.length r2 = u19.2.2 :: rmn u3.1 u19.2.1 u19.2.2.length u19.2.2 := by
          rcases hcm with q | q
          · exact absurd q.1 c22
          · exact q.2
        have hjl : n < ((RS M).length : Int) := by rw [hcn, List.length_cons] at hLl; omega
        have hget : (RS M).getD n.toNat [] = u19.2.2 := by
          rw [← hn, hcn, List.getD_eq_getElem?_getD, List.getElem?_append_right (by omega), show n.toNat - L.length = 0 by omega]
          rfl
        have hmem : u19.2.2 ∈ RS M := by rw [← hn, hcn]; exact List.mem_append_right _ List.mem_cons_self
        have hPR := RS_PR hmem
        have hl19 := hIT2.2.1.1
        refine j_aload_n C dX6_findsBest_25 rfl ?_
        refine j_aload_n C dX6_findsBest_26 rfl ?_
        refine j_perm (pm_7_0_2_4 _ _ _ _ _ _ _) ?_
        refine j_callVi C (As := []) (c_X6_roomOf _ _ _ _ _ _ _ (u19.2.2) (by exact st_s _ _ _) (by exact hIT2.1) (by exact hIT2.2.1) (by exact hPR.1.1) (by exact hDZ.1)) 0 nf_X6_roomOf (jb := 0) rfl rfl wL_X6_127 wI_X6_roomOf wSe_X6_X6_roomOf wIn_X6 wC_X6_roomOf rfl rfl (by decide) dX6_findsBest_27 (Nat.le_of_ble_eq_true rfl) ⟨Nat.le_of_ble_eq_true rfl, Nat.le_of_ble_eq_true rfl⟩ (fun x27 u27 h27 => ?_)
        refine j_perm (pr_7_0_2_4 _ _ _ _ _ _ _) ?_
        have hx27 : x27 = room M u19.2.2 := h27.trans (room_D hDQ hPR.1)
        have hrb := room_bd hI hPR
        refine j_perm (pm_7_0_2_5 _ _ _ _ _ _ _) ?_
        refine j_callVi C (As := [.int (iI _)]) (c_X6_savingBy _ _ _ _ _ _ _ (bQ M) (u19.2.2) _ (by exact st_s _ _ _) (by exact hIT2.1) (by exact hIT2.2.1) (by exact hBQ) (by exact bQ_bd hI) (by omega)) 1 nf_X6_savingBy (jb := 0) rfl rfl wL_X6_114 wI_X6_savingBy wSe_X6_X6_savingBy wIn_X6 wC_X6_savingBy rfl rfl (by decide) dX6_findsBest_30 (Nat.le_of_ble_eq_true rfl) ⟨Nat.le_of_ble_eq_true rfl, Nat.le_of_ble_eq_true rfl⟩ (fun x30 u30 h30 => ?_)
        refine j_perm (pr_7_0_2_5 _ _ _ _ _ _ _) ?_
        have hx30 : x30 = sav M u19.2.2 := by rw [h30, hx27]; rfl
        have hsp := sav_pos hI hPR
        have hsb := savP_bd hI hIT2.2.1.1 (amt := room M u19.2.2) (by omega) hrb.2
        rw [show savP M u19.2.2 (room M u19.2.2) = sav M u19.2.2 from rfl] at hsb
        refine j_istn_3 C dX6_findsBest_33 rfl ?_
        refine j_aload_n C dX6_findsBest_34 rfl ?_
        have L100 : ∀ (G5 BR5 : Int → Int) (h54 : G5 4 = (u19.2.2.length : Int)) (h53 : G5 3 = M 0) (hK5 : KG G G5) (hbs5 : bs (sav M) (rmn u3.1 u19.2.1 u19.2.2.length u19.2.2) (n + 1) (G5 5) (G5 6) = bs (sav M) (RS M) 0 (-1) 0) (hb5 : BN M G5 BR5 (n + 1)), J K 0 0 [mO a G5, [(q1, aJ ((kC K) 0) 325 M)], [(a 7, aJ ((kC K) 0) 8 u19.1)], [(a 8, aJ ((kC K) 0) 9 u19.2.1)], [(a 5, aJ ((kC K) 0) 49 u3.1)], [(a 6, aJ ((kC K) 0) 490 u3.2)], [(a 9, aJ ((kC K) 0) 8 BR5)]] [some (.ref (a 0)), some (.ref (q1)), some (.int (iI n)), none, none] 100 [] := by
          intro G5 BR5 h54 h53 hK5 hbs5 hb5
          refine j_iinc_2 C dX6_findsBest_100 rfl ?_
          refine j_goto (tgt := 18) C dX6_findsBest_103 (by decide) ?_
          exact ih18 _ _ _ _ _ (u19.2.2) (L ++ [u19.2.2]) (by exact h54) (by exact h53) (by exact hK5) (by exact hIT2) (by rw [List.length_append, List.length_singleton]; omega) (by rw [← hn, hcn, List.append_assoc]; rfl) (by exact hbs5) (by exact hb5) (by rw [hcn, List.length_cons] at hf18; omega)
        have L50 : ∀ (hup : G2 6 < sav M u19.2.2), J K 0 0 [mO a (st G2 4 (u19.2.2.length : Int)), [(q1, aJ ((kC K) 0) 325 M)], [(a 7, aJ ((kC K) 0) 8 u19.1)], [(a 8, aJ ((kC K) 0) 9 u19.2.1)], [(a 5, aJ ((kC K) 0) 49 u3.1)], [(a 6, aJ ((kC K) 0) 490 u3.2)], [(a 9, aJ ((kC K) 0) 8 BR2)]] [some (.ref (a 0)), some (.ref (q1)), some (.int (iI n)), some (.int (iI x30)), none] 50 [] := by
          intro  hup
          refine j_aload_n C dX6_findsBest_50 rfl ?_
          refine j_iload_n C dX6_findsBest_51 rfl ?_
          refine j_put_p0 C 0 13 rfl mO_put5 rfl wU_X6 tyX6_ok nmX6 (by decide) wF_X6_121 rfl rfl rfl (Nat.le_of_ble_eq_true rfl) dX6_findsBest_52 ?_
          refine j_aload_n C dX6_findsBest_55 rfl ?_
          refine j_iload_n C dX6_findsBest_56 rfl ?_
          refine j_put_p0 C 0 14 rfl mO_put6 rfl wU_X6 tyX6_ok nmX6 (by decide) wF_X6_124 rfl rfl rfl (Nat.le_of_ble_eq_true rfl) dX6_findsBest_57 ?_
          refine j_aload_n C dX6_findsBest_60 rfl ?_
          refine j_aload_n C dX6_findsBest_61 rfl ?_
          refine j_get C 0 0 12 rfl rfl rfl wU_X6 (by decide) wF_X6_86 rfl dX6_findsBest_62 ?_
          refine j_put_p0 C 0 16 rfl mO_put7 rfl wU_X6 tyX6_ok nmX6 (by decide) wF_X6_131 rfl rfl rfl (Nat.le_of_ble_eq_true rfl) dX6_findsBest_65 ?_
          refine j_iconst C dX6_findsBest_68 ?_
          refine j_ist_4 C dX6_findsBest_69 rfl ?_
          have L71 : ∀ (fuel : Nat) (k : Int) (G4 BR3 : Int → Int) (hk : 0 ≤ k ∧ k ≤ (u19.2.2.length : Int)) (h4 : G4 4 = (u19.2.2.length : Int) ∧ G4 5 = n ∧ G4 6 = x30 ∧ G4 7 = (u19.2.2.length : Int) ∧ G4 3 = M 0) (hK4 : KG G G4) (hBR : ∀ j : Int, 0 ≤ j → j < k → BR3 j = u19.1 j) (hf71 : (7 - k).toNat < fuel), J K 0 0 [mO a G4, [(q1, aJ ((kC K) 0) 325 M)], [(a 7, aJ ((kC K) 0) 8 u19.1)], [(a 8, aJ ((kC K) 0) 9 u19.2.1)], [(a 5, aJ ((kC K) 0) 49 u3.1)], [(a 6, aJ ((kC K) 0) 490 u3.2)], [(a 9, aJ ((kC K) 0) 8 BR3)]] [some (.ref (a 0)), some (.ref (q1)), some (.int (iI n)), some (.int (iI x30)), some (.int (iI k))] 71 [] := by
            intro fuel
            induction fuel with
            | zero => intro k G4 BR3 hk h4 hK4 hBR hf71; exact absurd hf71 (Nat.not_lt_zero _)
            | succ fuel ih71 =>
              intro k G4 BR3 hk h4 hK4 hBR hf71
              refine j_iload C dX6_findsBest_71 rfl ?_
              refine j_aload_n C dX6_findsBest_73 rfl ?_
              refine j_get C 0 0 12 rfl rfl rfl wU_X6 (by decide) wF_X6_86 rfl dX6_findsBest_74 ?_
              refine j_icmp_ge (tgt := 100) C dX6_findsBest_77 (by decide) (by omega) (by omega) (by omega) (by omega) (fun c77 => ?_) (fun c77 => ?_)
              · exact j_lle (lv' := [_, _, _, none, none]) ⟨Or.inr rfl, ⟨Or.inr rfl, ⟨Or.inr rfl, ⟨Or.inl rfl, ⟨Or.inl rfl, trivial⟩⟩⟩⟩⟩ (L100 _ _ (by exact h4.1) (by exact h4.2.2.2.2) (by exact hK4) (by rw [← hbs, hcn, bs, if_pos hup, h4.2.1, h4.2.2.1, hx30]) (by right; rw [h4.2.1, h4.2.2.1, h4.2.2.2.1, hget]; exact ⟨by omega, by omega, rfl, fun j a b => by rw [hBR j a (by omega)]; exact hIT2.1 j a b⟩))
              · refine j_aload_n C dX6_findsBest_80 rfl ?_
                refine j_get C 0 0 15 rfl rfl rfl wU_X6 (by decide) wF_X6_34 rfl dX6_findsBest_81 ?_
                refine j_iload C dX6_findsBest_84 rfl ?_
                refine j_aload_n C dX6_findsBest_86 rfl ?_
                refine j_get C 0 0 10 rfl rfl rfl wU_X6 (by decide) wF_X6_28 rfl dX6_findsBest_87 ?_
                refine j_iload C dX6_findsBest_90 rfl ?_
                refine j_iald C 2 0 rfl rfl dX6_findsBest_92 (by decide) (by omega) (by omega) ?_
                refine j_iast_p6 C 0 rfl ar1_ast dX6_findsBest_93 (by decide) (by omega) (by omega) ?_
                refine j_iinc_4 C dX6_findsBest_94 rfl ?_
                refine j_goto (tgt := 71) C dX6_findsBest_97 (by decide) ?_
                exact ih71 _ _ _ (by omega) (by exact h4) (by exact hK4) (by intro j a b; by_cases c : j = k; (rw [c, st_s]); (rw [st_n c]; exact hBR j a (by omega))) (by omega)
          exact L71 _ _ _ _ (by omega) (by exact ⟨by rw [st_n (by omega), st_n (by omega), st_n (by omega), st_s], by rw [st_n (by omega), st_n (by omega), st_s], by rw [st_n (by omega), st_s], by rw [st_s, st_n (by omega), st_n (by omega), st_s], by rw [st_n (by omega), st_n (by omega), st_n (by omega), st_n (by omega), hG3]⟩) (by exact KG_st (KG_st (KG_st (KG_st hK (by omega)) (by omega)) (by omega)) (by omega)) (by intro j a b; omega) (Nat.lt_succ_self _)
        refine j_get C 0 0 13 rfl rfl rfl wU_X6 (by decide) wF_X6_121 rfl dX6_findsBest_35 ?_
        have e35 : st G2 4 (u19.2.2.length : Int) 5 = G2 5 := st_n (by omega)
        refine j_iconst C dX6_findsBest_38 ?_
        refine j_icmp_eq (tgt := 50) C dX6_findsBest_39 (by decide) (by omega) (by omega) (by omega) (by omega) (fun c39 => ?_) (fun c39 => ?_)
        · exact L50 (by first | (rw [st_n (by omega)] at c47; omega) | (rcases hb with q | q; omega; (rw [st_n (by omega)] at c39; omega)))
        · refine j_iload_n C dX6_findsBest_42 rfl ?_
          refine j_aload_n C dX6_findsBest_43 rfl ?_
          refine j_get C 0 0 14 rfl rfl rfl wU_X6 (by decide) wF_X6_124 rfl dX6_findsBest_44 ?_
          have e47 : st G2 4 (u19.2.2.length : Int) 6 = G2 6 := st_n (by omega)
          refine j_icmp_le (tgt := 100) C dX6_findsBest_47 (by decide) (by omega) (by omega) (by omega) (by omega) (fun c47 => ?_) (fun c47 => ?_)
          · exact j_lle (lv' := [_, _, _, none, none]) ⟨Or.inr rfl, ⟨Or.inr rfl, ⟨Or.inr rfl, ⟨Or.inl rfl, ⟨Or.inl rfl, trivial⟩⟩⟩⟩⟩ (L100 _ _ (by exact st_s _ _ _) (by exact (st_n (by omega)).trans hG3) (by exact KG_st hK (by omega)) (by rw [st_n (by omega), st_n (by omega), ← hbs, hcn, bs, if_neg (by rw [st_n (by omega)] at c47; omega)]) (by rcases hb with q | q; (left; rw [st_n (by omega), st_n (by omega)]; exact q); (right; rw [st_n (by omega), st_n (by omega), st_n (by omega)]; exact ⟨by omega, q.2⟩)))
          · exact L50 (by first | (rw [st_n (by omega)] at c47; omega) | (rcases hb with q | q; omega; (rw [st_n (by omega)] at c39; omega)))
  exact L18 _ _ _ _ _ _ ([]) ([]) (by exact (st_n (by omega)).trans ((st_n (by omega)).trans (st_s _ _ _))) (by exact (st_n (by omega)).trans ((st_n (by omega)).trans ((st_n (by omega)).trans (st_s _ _ _)))) (by exact KG_st (KG_st (KG_st (KG_st (KG_rfl G) (by omega)) (by omega)) (by omega)) (by omega)) (by exact IT_0 (by have := hI.1; omega) (st_s _ _ _)) (by rfl) (by rw [List.nil_append, show ([] : List Int).length = 0 from rfl, RG_rmn (st_s _ _ _)]; exact hRG) (by rw [show ([] : List Int).length = 0 from rfl, RG_rmn (st_s _ _ _), hRG, st_s, st_n (by omega), st_s]) (by exact Or.inl ⟨(st_n (by omega)).trans (st_s _ _ _), st_s _ _ _⟩) (Nat.lt_succ_self _)
set_option maxHeartbeats 4000000 in
set_option maxRecDepth 100000 in
theorem c_X6_dischargesBest (l : Launch) (D : va_G) (cA : Nat → ClassId) (a : Nat → Nat) (q1 : Nat) (G M R D1 B1 BR : Int → Int) (hI : Inv M) (hb : best M ≠ -1) (hDB : DBB M D1 B1) (hG7 : G 7 = (((RS M).getD (best M).toNat []).length : Int)) (hBR : RWS BR ((RS M).getD (best M).toNat [])) : MV (U := Int → Int) l yX6_dischargesBest cX6_dischargesBest 3 none (rmN 5 0 0) D cA [.ref (a 0), .ref (q1)] [mO a G, [(q1, aJ (cA 0) 325 M)], [(a 7, aJ (cA 0) 8 R)], [(a 5, aJ (cA 0) 49 D1)], [(a 6, aJ (cA 0) 490 B1)], [(a 9, aJ (cA 0) 8 BR)]] (fun _ => True) (fun u => [mO a (st G 4 (G 7)), [(q1, aJ (cA 0) 325 (disB M))], [(a 7, aJ (cA 0) 8 u)], [(a 5, aJ (cA 0) 49 D1)], [(a 6, aJ (cA 0) 490 B1)], [(a 9, aJ (cA 0) 8 BR)]]) := by
  refine m_startV pn_X6 rfl (List.forall_mem_cons.mpr ⟨rfl, List.forall_mem_cons.mpr ⟨rfl, fun _ h => absurd h List.not_mem_nil⟩⟩) (Nat.le_of_ble_eq_true rfl) ?_
  intro K C e1 e2 e3 hin hR
  subst e1 e2 e3
  have hrg := best_rng M
  have hPR := RS_get (S := M) (i := best M) (by omega) (by omega)
  have hrb := room_bd hI hPR
  have hl7 := hPR.1.2.1
  show J K 0 0 [mO a G, [(q1, aJ ((kC K) 0) 325 M)], [(a 7, aJ ((kC K) 0) 8 R)], [(a 5, aJ ((kC K) 0) 49 D1)], [(a 6, aJ ((kC K) 0) 490 B1)], [(a 9, aJ ((kC K) 0) 8 BR)]] [some (.ref (a 0)), some (.ref (q1)), none] 0 []
  refine j_aload_n C dX6_dischargesBest_0 rfl ?_
  refine j_aload_n C dX6_dischargesBest_1 rfl ?_
  refine j_get C 0 0 16 rfl rfl rfl wU_X6 (by decide) wF_X6_131 rfl dX6_dischargesBest_2 ?_
  refine j_put_p0 C 0 12 rfl mO_put4 rfl wU_X6 tyX6_ok nmX6 (by decide) wF_X6_86 rfl rfl rfl (Nat.le_of_ble_eq_true rfl) dX6_dischargesBest_5 ?_
  refine j_iconst C dX6_dischargesBest_8 ?_
  refine j_istn_2 C dX6_dischargesBest_9 rfl ?_
  have L10 : ∀ (fuel : Nat) (k : Int) (R2 : Int → Int) (hk : 0 ≤ k ∧ k ≤ (((RS M).getD (best M).toNat []).length : Int)) (hR2 : ∀ j : Int, 0 ≤ j → j < k → R2 j = BR j) (hf10 : (7 - k).toNat < fuel), J K 0 0 [mO a (st G 4 (G 7)), [(q1, aJ ((kC K) 0) 325 M)], [(a 7, aJ ((kC K) 0) 8 R2)], [(a 5, aJ ((kC K) 0) 49 D1)], [(a 6, aJ ((kC K) 0) 490 B1)], [(a 9, aJ ((kC K) 0) 8 BR)]] [some (.ref (a 0)), some (.ref (q1)), some (.int (iI k))] 10 [] := by
    intro fuel
    induction fuel with
    | zero => intro k R2 hk hR2 hf10; exact absurd hf10 (Nat.not_lt_zero _)
    | succ fuel ih10 =>
      intro k R2 hk hR2 hf10
      have e4 : st G 4 (G 7) 4 = (((RS M).getD (best M).toNat []).length : Int) := (st_s _ _ _).trans hG7
      refine j_iload_n C dX6_dischargesBest_10 rfl ?_
      refine j_aload_n C dX6_dischargesBest_11 rfl ?_
      refine j_get C 0 0 12 rfl rfl rfl wU_X6 (by decide) wF_X6_86 rfl dX6_dischargesBest_12 ?_
      refine j_icmp_ge (tgt := 36) C dX6_dischargesBest_15 (by decide) (by omega) (by omega) (by omega) (by omega) (fun c15 => ?_) (fun c15 => ?_)
      · have hRW : RWS R2 ((RS M).getD (best M).toNat []) := fun j p q => by rw [hR2 j p (by omega)]; exact hBR j p q
        refine j_aload_n C dX6_dischargesBest_36 rfl ?_
        refine j_aload_n C dX6_dischargesBest_37 rfl ?_
        refine j_aload_n C dX6_dischargesBest_38 rfl ?_
        refine j_perm (pm_6_0_2_3 _ _ _ _ _ _) ?_
        refine j_callVi C (As := []) (c_X6_roomOf _ _ _ _ _ _ _ ((RS M).getD (best M).toNat []) (by exact e4) (by exact hRW) (by exact ⟨hPR.1.2.1, hPR.1.2.2.1⟩) (by exact hPR.1.1) (by exact fun q p0 p1 => by rw [hDB.1 q p0 p1]; exact dQ_bd hI q)) 0 nf_X6_roomOf (jb := 0) rfl rfl wL_X6_127 wI_X6_roomOf wSe_X6_X6_roomOf wIn_X6 wC_X6_roomOf rfl rfl (by decide) dX6_dischargesBest_39 (Nat.le_of_ble_eq_true rfl) ⟨Nat.le_of_ble_eq_true rfl, Nat.le_of_ble_eq_true rfl⟩ (fun x39 u39 h39 => ?_)
        refine j_perm (pr_6_0_2_3 _ _ _ _ _ _) ?_
        have hx39 : x39 = room M ((RS M).getD (best M).toNat []) := h39.trans (room_D hDB.1 hPR.1)
        refine j_perm (pm_6_0_1_2_4 _ _ _ _ _ _) ?_
        refine j_callVi C (As := [.ref _, .int (iI _)]) (c_X6_discharges _ _ _ _ _ _ _ _ _ ((RS M).getD (best M).toNat []) _ (by exact e4) (by exact hRW) (by exact ⟨hPR.1.2.1, hPR.1.2.2.1⟩) (by exact hPR.1) (by exact hI) (by exact hDB.2) (by omega) (by rw [hx39]; exact fun q hq => rmC_le (d := dQ M) q hq)) 2 nf_X6_discharges (jb := 0) rfl rfl wL_X6_134 wI_X6_discharges wSe_X6_X6_discharges wIn_X6 wC_X6_discharges rfl rfl (by decide) dX6_dischargesBest_42 (Nat.le_of_ble_eq_true rfl) ⟨Nat.le_of_ble_eq_true rfl, Nat.le_of_ble_eq_true rfl⟩ (fun x42 u42 h42 => ?_)
        refine j_perm (pr_6_0_1_2_4 _ _ _ _ _ _) ?_
        refine j_pop C dX6_dischargesBest_45 rfl ?_
        exact hR R2 dX6_dischargesBest_46 (by trivial) (by rw [hx39]; rfl) (Nat.le_of_ble_eq_true rfl) (Nat.le_of_ble_eq_true rfl)
      · refine j_aload_n C dX6_dischargesBest_18 rfl ?_
        refine j_get C 0 0 10 rfl rfl rfl wU_X6 (by decide) wF_X6_28 rfl dX6_dischargesBest_19 ?_
        refine j_iload_n C dX6_dischargesBest_22 rfl ?_
        refine j_aload_n C dX6_dischargesBest_23 rfl ?_
        refine j_get C 0 0 15 rfl rfl rfl wU_X6 (by decide) wF_X6_34 rfl dX6_dischargesBest_24 ?_
        refine j_iload_n C dX6_dischargesBest_27 rfl ?_
        refine j_iald C 5 0 rfl rfl dX6_dischargesBest_28 (by decide) (by omega) (by omega) ?_
        refine j_iast_p2 C 0 rfl ar1_ast dX6_dischargesBest_29 (by decide) (by omega) (by omega) ?_
        refine j_iinc_2 C dX6_dischargesBest_30 rfl ?_
        refine j_goto (tgt := 10) C dX6_dischargesBest_33 (by decide) ?_
        exact ih10 _ _ (by omega) (by intro j p q; by_cases c : j = k; (rw [c, st_s]); (rw [st_n c]; exact hR2 j p (by omega))) (by omega)
  exact L10 _ _ _ (by omega) (by intro j p q; omega) (Nat.lt_succ_self _)
set_option maxHeartbeats 4000000 in
set_option maxRecDepth 100000 in
theorem c_X6_dischargesAll (l : Launch) (D : va_G) (cA : Nat → ClassId) (a : Nat → Nat) (q1 : Nat) (G M R N1 D1 B1 BR : Int → Int) (hI : Inv M) : MI (U := (Int → Int) × (Int → Int) × (Int → Int) × (Int → Int) × (Int → Int) × (Int → Int)) l yX6_dischargesAll cX6_dischargesAll 3 (some .int) (rmN 6 0 0) D cA [.ref (a 0), .ref (q1)] [mO a G, [(q1, aJ (cA 0) 325 M)], [(a 7, aJ (cA 0) 8 R)], [(a 8, aJ (cA 0) 9 N1)], [(a 5, aJ (cA 0) 49 D1)], [(a 6, aJ (cA 0) 490 B1)], [(a 9, aJ (cA 0) 8 BR)]] (fun x u => KG G u.1 ∧ x = (disA 49 M 0).2) (fun u => [mO a u.1, [(q1, aJ (cA 0) 325 (disA 49 M 0).1)], [(a 7, aJ (cA 0) 8 u.2.1)], [(a 8, aJ (cA 0) 9 u.2.2.1)], [(a 5, aJ (cA 0) 49 u.2.2.2.1)], [(a 6, aJ (cA 0) 490 u.2.2.2.2.1)], [(a 9, aJ (cA 0) 8 u.2.2.2.2.2)]]) := by
  refine m_startI pn_X6 rfl (List.forall_mem_cons.mpr ⟨rfl, List.forall_mem_cons.mpr ⟨rfl, fun _ h => absurd h List.not_mem_nil⟩⟩) (Nat.le_of_ble_eq_true rfl) ?_
  intro K C e1 e2 e3 hin hR
  subst e1 e2 e3
  show J K 0 0 [mO a G, [(q1, aJ ((kC K) 0) 325 M)], [(a 7, aJ ((kC K) 0) 8 R)], [(a 8, aJ ((kC K) 0) 9 N1)], [(a 5, aJ ((kC K) 0) 49 D1)], [(a 6, aJ ((kC K) 0) 490 B1)], [(a 9, aJ ((kC K) 0) 8 BR)]] [some (.ref (a 0)), some (.ref (q1)), none] 0 []
  refine j_iconst C dX6_dischargesAll_0 ?_
  refine j_istn_2 C dX6_dischargesAll_1 rfl ?_
  have L2 : ∀ (fuel : Nat) (n : Int) (G2 T R2 N2 D2 B2 BR2 : Int → Int) (k : Nat) (hIT : Inv T) (hK : KG G G2) (hk : cntD T ≤ k) (hdis : disA k T n = disA 49 M 0) (hf2 : cntD T < fuel), J K 0 0 [mO a G2, [(q1, aJ ((kC K) 0) 325 T)], [(a 7, aJ ((kC K) 0) 8 R2)], [(a 8, aJ ((kC K) 0) 9 N2)], [(a 5, aJ ((kC K) 0) 49 D2)], [(a 6, aJ ((kC K) 0) 490 B2)], [(a 9, aJ ((kC K) 0) 8 BR2)]] [some (.ref (a 0)), some (.ref (q1)), some (.int (iI n))] 2 [] := by
    intro fuel
    induction fuel with
    | zero => intro n G2 T R2 N2 D2 B2 BR2 k hIT hK hk hdis hf2; exact absurd hf2 (Nat.not_lt_zero _)
    | succ fuel ih2 =>
      intro n G2 T R2 N2 D2 B2 BR2 k hIT hK hk hdis hf2
      refine j_aload_n C dX6_dischargesAll_2 rfl ?_
      refine j_aload_n C dX6_dischargesAll_3 rfl ?_
      refine j_perm (pm_7_0_1_2_3_4_5_6 _ _ _ _ _ _ _) ?_
      refine j_callVi C (As := [.ref _]) (c_X6_findsBest _ _ _ _ _ _ _ _ _ _ _ _ (by exact hIT)) 1 nf_X6_findsBest (jb := 0) rfl rfl wL_X6_138 wI_X6_findsBest wSe_X6_X6_findsBest wIn_X6 wC_X6_findsBest rfl rfl (by decide) dX6_dischargesAll_4 (Nat.le_of_ble_eq_true rfl) ⟨Nat.le_of_ble_eq_true rfl, Nat.le_of_ble_eq_true rfl⟩ (fun x4 u4 h4 => ?_)
      refine j_perm (pr_7_0_1_2_3_4_5_6 _ _ _ _ _ _ _) ?_
      refine j_if_eq (tgt := 21) C dX6_dischargesAll_7 (by decide) (by omega) (by omega) (fun c7 => ?_) (fun c7 => ?_)
      · have hb : best T = -1 := Classical.byContradiction (fun q => by have := h4.2.2.2.1; rw [if_neg q] at this; omega)
        rw [disA_end hb] at hdis
        refine j_iload_n C dX6_dischargesAll_21 rfl ?_
        refine hR (u4.1, u4.2.1, u4.2.2.1, u4.2.2.2.1, u4.2.2.2.2.1, u4.2.2.2.2.2) dX6_dischargesAll_22 ?_ (by rw [← hdis]) (Nat.le_of_ble_eq_true rfl) (Nat.le_of_ble_eq_true rfl)
        exact ⟨KG_tr hK h4.1, by rw [← hdis]⟩
      · have hnb : best T ≠ -1 := fun q => by have := h4.2.2.2.1; rw [if_pos q] at this; omega
        have hcl := cntD_lt hIT hnb
        have hk1 : k = k - 1 + 1 := by omega
        refine j_aload_n C dX6_dischargesAll_10 rfl ?_
        refine j_aload_n C dX6_dischargesAll_11 rfl ?_
        refine j_perm (pm_7_0_1_2_4_5_6 _ _ _ _ _ _ _) ?_
        refine j_callVv C (As := [.ref _]) (c_X6_dischargesBest _ _ _ _ _ _ _ _ _ _ _ (by exact hIT) (by exact hnb) (by exact h4.2.2.1) (by exact (h4.2.2.2.2 hnb).1) (by exact (h4.2.2.2.2 hnb).2)) 1 nf_X6_dischargesBest (jb := 0) rfl rfl wL_X6_142 wI_X6_dischargesBest wSe_X6_X6_dischargesBest wIn_X6 wC_X6_dischargesBest rfl rfl (by decide) dX6_dischargesAll_12 (Nat.le_of_ble_eq_true rfl) ⟨Nat.le_of_ble_eq_true rfl, Nat.le_of_ble_eq_true rfl⟩ (fun u12 h12 => ?_)
        refine j_perm (pr_7_0_1_2_4_5_6 _ _ _ _ _ _ _) ?_
        refine j_iinc_2 C dX6_dischargesAll_15 rfl ?_
        refine j_goto (tgt := 2) C dX6_dischargesAll_18 (by decide) ?_
        exact ih2 _ _ _ _ _ _ _ _ (k - 1) (by exact disB_Inv hIT hnb) (by exact KG_st (KG_tr hK h4.1) (by omega)) (by have := cntD_lt hIT hnb; omega) (by rw [← hdis, hk1, disA, if_neg hnb, show k - 1 + 1 - 1 = k - 1 by omega]) (by have := cntD_lt hIT hnb; omega)
  exact L2 _ _ _ _ _ _ _ _ _ (49) (by exact hI) (by exact KG_rfl G) (by exact cntD_le M) (by rfl) (Nat.lt_succ_self _)
