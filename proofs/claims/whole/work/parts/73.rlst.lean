/-! the reference: the least cost as a whole -/
theorem ngx {S L : Int → Int} {i : Int} (hI : Inv S) (h0 : 0 ≤ i) (h1 : i < S 1) (hL : ∀ p : Int, 0 ≤ p → p < 7 → L p = -exN S i.toNat p) {v : Int} (hv : v = if di S i = 0 then am S i else 0) : ∀ p : Int, 0 ≤ p → p < 7 → st (st L (tO S i) (L (tO S i) + v)) (fr S i) (st L (tO S i) (L (tO S i) + v) (fr S i) - v) p = -exN S (i + 1).toNat p := by
  intro p p0 p1
  have f := hI.2.2 i h0 h1
  have g := hI.1
  have e1 := hL p p0 p1
  have e2 := hL (tO S i) (by omega) (by omega)
  have e3 := hL (fr S i) (by omega) (by omega)
  rw [show (i + 1).toNat = i.toNat + 1 by omega, exN, show ((i.toNat : Nat) : Int) = i by omega]
  have ev : v = if di S i = 0 ∧ 0 < am S i then am S i else 0 := by
    rw [hv]
    by_cases c : di S i = 0
    · by_cases d : 0 < am S i
      · rw [if_pos c, if_pos ⟨c, d⟩]
      · rw [if_pos c, if_neg (fun q => d q.2)]
        omega
    · rw [if_neg c, if_neg (fun q => c q.1)]
  by_cases c : di S i = 0 ∧ 0 < am S i
  · rw [if_pos c] at ev ⊢
    by_cases c1 : p = fr S i
    · rw [c1, st_s, st_n f.2.2.1, st_n f.2.2.1, st_s]
      omega
    · rw [st_n c1]
      by_cases c2 : p = tO S i
      · rw [c2, st_s, st_s, st_n (fun q => f.2.2.1 q.symm)]
        omega
      · rw [st_n c2, st_n c2, st_n c1]
        exact e1
  · rw [if_neg c] at ev ⊢
    by_cases c1 : p = fr S i
    · rw [c1, st_s, st_n f.2.2.1]
      omega
    · rw [st_n c1]
      by_cases c2 : p = tO S i
      · rw [c2, st_s]
        omega
      · rw [st_n c2]
        exact e1
theorem pm_6_0_1_2_3_5 (B0 B1 B2 B3 B4 B5 : va_W) : [B0, B1, B2, B3, B4, B5].Perm ([B0, B1, B2, B3, B5] ++ [B4]) := List.Perm.trans (List.Perm.refl _) (List.Perm.trans (List.Perm.cons _ (List.Perm.refl _)) (List.Perm.trans (List.Perm.cons _ (List.Perm.cons _ (List.Perm.refl _))) (List.Perm.trans (List.Perm.cons _ (List.Perm.cons _ (List.Perm.cons _ (List.Perm.refl _)))) (List.Perm.cons _ (List.Perm.cons _ (List.Perm.cons _ (List.Perm.cons _ (List.perm_middle (l₁ := [B4]) (a := B5) (l₂ := [])))))))))
theorem pr_6_0_1_2_3_5 (B0 B1 B2 B3 B4 B5 : va_W) : ([B0, B1, B2, B3, B5] ++ [B4]).Perm [B0, B1, B2, B3, B4, B5] := (pm_6_0_1_2_3_5 B0 B1 B2 B3 B4 B5).symm
theorem pm_6_0_3_4 (B0 B1 B2 B3 B4 B5 : va_W) : [B0, B1, B2, B3, B4, B5].Perm ([B0, B3, B4] ++ [B1, B2, B5]) := List.Perm.trans (List.Perm.refl _) (List.Perm.trans (List.Perm.cons _ (List.perm_middle (l₁ := [B1, B2]) (a := B3) (l₂ := [B4, B5]))) (List.Perm.cons _ (List.Perm.cons _ (List.perm_middle (l₁ := [B1, B2]) (a := B4) (l₂ := [B5])))))
theorem pr_6_0_3_4 (B0 B1 B2 B3 B4 B5 : va_W) : ([B0, B3, B4] ++ [B1, B2, B5]).Perm [B0, B1, B2, B3, B4, B5] := (pm_6_0_3_4 B0 B1 B2 B3 B4 B5).symm
set_option maxHeartbeats 800000 in
set_option maxRecDepth 100000 in
theorem c_X6_leastOf (l : Launch) (D : va_G) (cA : Nat → ClassId) (a : Nat → Nat) (G M X L1 F1 B1 S : Int → Int) (hI : Inv S) (hA : Ag S M) : MI (U := (Int → Int) × (Int → Int) × (Int → Int) × (Int → Int)) l yX6_leastOf cX6_leastOf 4 (some .int) (rmN 4 0 0) D cA [.ref (a 0)] [mO a G, [(a 1, aJ (cA 0) 325 M)], [(a 10, aJ (cA 0) 40 X)], [(a 11, aJ (cA 0) 7 L1)], [(a 12, aJ (cA 0) 7 F1)], [(a 13, aJ (cA 0) 7 B1)]] (fun y _ => y = leastS S) (fun u => [mO a G, [(a 1, aJ (cA 0) 325 M)], [(a 10, aJ (cA 0) 40 u.1)], [(a 11, aJ (cA 0) 7 u.2.1)], [(a 12, aJ (cA 0) 7 u.2.2.1)], [(a 13, aJ (cA 0) 7 u.2.2.2)]]) := by
  refine m_startI pn_X6 rfl (List.forall_mem_cons.mpr ⟨rfl, fun _ h => absurd h List.not_mem_nil⟩) (Nat.le_of_ble_eq_true rfl) ?_
  intro K C e1 e2 e3 hin hR
  subst e1 e2 e3
  have hN := hI.2.1
  have hM1 := (Ag_h hA hN.1).2.1
  have h00 := (LI_0 hI).1
  have h0p := (LI_0 hI).2
  show J K 0 0 [mO a G, [(a 1, aJ ((kC K) 0) 325 M)], [(a 10, aJ ((kC K) 0) 40 X)], [(a 11, aJ ((kC K) 0) 7 L1)], [(a 12, aJ ((kC K) 0) 7 F1)], [(a 13, aJ ((kC K) 0) 7 B1)]] [some (.ref (a 0)), none, none, none] 0 []
  refine j_iconst C dX6_leastOf_0 ?_
  refine j_istn_1 C dX6_leastOf_1 rfl ?_
  have L2 : ∀ (fuel : Nat) (i : Int) (L2 : Int → Int) (hi : 0 ≤ i ∧ i ≤ 7) (h1 : ∀ q : Int, 0 ≤ q → q < i → L2 q = 0) (hf2 : (7 - i).toNat < fuel), J K 0 0 [mO a G, [(a 1, aJ ((kC K) 0) 325 M)], [(a 10, aJ ((kC K) 0) 40 X)], [(a 11, aJ ((kC K) 0) 7 L2)], [(a 12, aJ ((kC K) 0) 7 F1)], [(a 13, aJ ((kC K) 0) 7 B1)]] [some (.ref (a 0)), some (.int (iI i)), none, none] 2 [] := by
    intro fuel
    induction fuel with
    | zero => intro i L2 hi h1 hf2; exact absurd hf2 (Nat.not_lt_zero _)
    | succ fuel ih2 =>
      intro i L2 hi h1 hf2
      refine j_iload_n C dX6_leastOf_2 rfl ?_
      refine j_bipush C dX6_leastOf_3 (by decide) ?_
      refine j_icmp_ge (tgt := 21) C dX6_leastOf_5 (by decide) (by omega) (by omega) (by omega) (by omega) (fun c5 => ?_) (fun c5 => ?_)
      · refine j_iconst C dX6_leastOf_21 ?_
        refine j_istn_1 C dX6_leastOf_22 rfl ?_
        refine j_iconst C dX6_leastOf_23 ?_
        refine j_istn_2 C dX6_leastOf_24 rfl ?_
        have L25 : ∀ (fuel : Nat) (y i : Int) (X1 L2 : Int → Int) (hi : 0 ≤ i ∧ i ≤ S 1) (hy : y = sumZ (fun k => if di S k = 0 then 0 else am S k * ra S k) i) (hyb : 0 ≤ y ∧ y ≤ 9000 * i) (hX : AG i X1 (fun _ => 0)) (hL1 : ∀ q : Int, 0 ≤ q → q < 7 → L2 q = -exN S i.toNat q) (hf25 : (S 1 - i).toNat < fuel), J K 0 0 [mO a G, [(a 1, aJ ((kC K) 0) 325 M)], [(a 10, aJ ((kC K) 0) 40 X1)], [(a 11, aJ ((kC K) 0) 7 L2)], [(a 12, aJ ((kC K) 0) 7 F1)], [(a 13, aJ ((kC K) 0) 7 B1)]] [some (.ref (a 0)), some (.int (iI y)), some (.int (iI i)), none] 25 [] := by
          intro fuel
          induction fuel with
          | zero => intro y i X1 L2 hi hy hyb hX hL1 hf25; exact absurd hf25 (Nat.not_lt_zero _)
          | succ fuel ih25 =>
            intro y i X1 L2 hi hy hyb hX hL1 hf25
            refine j_iload_n C dX6_leastOf_25 rfl ?_
            refine j_aload_n C dX6_leastOf_26 rfl ?_
            refine j_get C 0 0 0 rfl rfl rfl wU_X6 (by decide) wF_X6_7 rfl dX6_leastOf_27 ?_
            refine j_iconst C dX6_leastOf_30 ?_
            refine j_iald C 1 0 rfl rfl dX6_leastOf_31 (by decide) (by omega) (by omega) ?_
            refine j_icmp_ge (tgt := 171) C dX6_leastOf_32 (by decide) (by omega) (by omega) (by omega) (by omega) (fun c32 => ?_) (fun c32 => ?_)
            · refine j_aload_n C dX6_leastOf_171 rfl ?_
              refine j_perm (pm_6_0_1_2_3_4_5 _ _ _ _ _ _) ?_
              refine j_callVv C (As := []) (c_X6_ways _ _ _ _ _ _ _ _ _ _ (S) (fun _ => 0) (ex0 S) (by exact hI) (by exact hA) (by exact h00) (by rw [show i = S 1 by omega] at hX; exact hX) (by rw [show i.toNat = (S 1).toNat by omega] at hL1; exact hL1)) 0 nf_X6_ways (jb := 0) rfl rfl wL_X6_194 wI_X6_ways wSe_X6_X6_ways wIn_X6 wC_X6_ways rfl rfl (by decide) dX6_leastOf_172 (Nat.le_of_ble_eq_true rfl) ⟨Nat.le_of_ble_eq_true rfl, Nat.le_of_ble_eq_true rfl⟩ (fun u172 h172 => ?_)
              refine j_perm (pr_6_0_1_2_3_4_5 _ _ _ _ _ _) ?_
              rw [show i = S 1 by omega] at hX hy
              rw [show i.toNat = (S 1).toNat by omega] at hL1
              have hb0 := meas_Bd hI h00
              refine j_aload_n C dX6_leastOf_175 rfl ?_
              refine j_perm (pm_6_0_3_4 _ _ _ _ _ _) ?_
              refine j_callVi C (As := []) (c_X6_nearest _ _ _ _ _ _ _ (ex0 S) ((meas S (fun _ => 0) (ex0 S)).1) (by exact hL1) (by exact fun q a b => (h172 q a b).1) (by exact h00.2.2) (by exact hb0)) 0 nf_X6_nearest (jb := 0) rfl rfl wL_X6_197 wI_X6_nearest wSe_X6_X6_nearest wIn_X6 wC_X6_nearest rfl rfl (by decide) dX6_leastOf_176 (Nat.le_of_ble_eq_true rfl) ⟨Nat.le_of_ble_eq_true rfl, Nat.le_of_ble_eq_true rfl⟩ (fun x176 u176 h176 => ?_)
              refine j_perm (pr_6_0_3_4 _ _ _ _ _ _) ?_
              refine j_istn_2 C dX6_leastOf_179 rfl ?_
              have L180 : ∀ (fuel : Nat) (z : Int) (x e X2 L3 F3 B3 : Int → Int) (n : Nat) (hL : LI S x e) (hX2 : AG (S 1) X2 x) (hE2 : NG7 L3 e) (hM : RF (meas S x e) F3 B3) (hz : z = near (meas S x e).1 e) (hn : posE e ≤ n) (hC : LC S n x e = LX S) (hf180 : n < fuel), J K 0 0 [mO a G, [(a 1, aJ ((kC K) 0) 325 M)], [(a 10, aJ ((kC K) 0) 40 X2)], [(a 11, aJ ((kC K) 0) 7 L3)], [(a 12, aJ ((kC K) 0) 7 F3)], [(a 13, aJ ((kC K) 0) 7 B3)]] [some (.ref (a 0)), some (.int (iI y)), some (.int (iI z)), none] 180 [] := by
                intro fuel
                induction fuel with
                | zero => intro z x e X2 L3 F3 B3 n hL hX2 hE2 hM hz hn hC hf180; exact absurd hf180 (Nat.not_lt_zero _)
                | succ fuel ih180 =>
                  intro z x e X2 L3 F3 B3 n hL hX2 hE2 hM hz hn hC hf180
                  have hnz0 := near_ok (meas S x e).1 e
                  rw [← hz] at hnz0
                  refine j_iload_n C dX6_leastOf_180 rfl ?_
                  refine j_iconst C dX6_leastOf_181 ?_
                  refine j_icmp_eq (tgt := 202) C dX6_leastOf_182 (by decide) (by omega) (by omega) (by omega) (by omega) (fun c182 => ?_) (fun c182 => ?_)
                  · have hxl : x = LX S := by
                      rw [← hC]
                      exact (LX_e (by omega)).symm
                    refine j_iconst C dX6_leastOf_202 ?_
                    refine j_istn_2 C dX6_leastOf_203 rfl ?_
                    have L204 : ∀ (fuel : Nat) (y2 i : Int) (hi : 0 ≤ i ∧ i ≤ S 1) (hy2 : y2 = y + sumZ (fun k => x k * ra S k) i) (hyb2 : 0 ≤ y2 ∧ y2 ≤ 360000 + 9000 * i) (hf204 : (S 1 - i).toNat < fuel), J K 0 0 [mO a G, [(a 1, aJ ((kC K) 0) 325 M)], [(a 10, aJ ((kC K) 0) 40 X2)], [(a 11, aJ ((kC K) 0) 7 L3)], [(a 12, aJ ((kC K) 0) 7 F3)], [(a 13, aJ ((kC K) 0) 7 B3)]] [some (.ref (a 0)), some (.int (iI y2)), some (.int (iI i)), none] 204 [] := by
                      intro fuel
                      induction fuel with
                      | zero => intro y2 i hi hy2 hyb2 hf204; exact absurd hf204 (Nat.not_lt_zero _)
                      | succ fuel ih204 =>
                        intro y2 i hi hy2 hyb2 hf204
                        refine j_iload_n C dX6_leastOf_204 rfl ?_
                        refine j_aload_n C dX6_leastOf_205 rfl ?_
                        refine j_get C 0 0 0 rfl rfl rfl wU_X6 (by decide) wF_X6_7 rfl dX6_leastOf_206 ?_
                        refine j_iconst C dX6_leastOf_209 ?_
                        refine j_iald C 1 0 rfl rfl dX6_leastOf_210 (by decide) (by omega) (by omega) ?_
                        refine j_icmp_ge (tgt := 240) C dX6_leastOf_211 (by decide) (by omega) (by omega) (by omega) (by omega) (fun c211 => ?_) (fun c211 => ?_)
                        · refine j_iload_n C dX6_leastOf_240 rfl ?_
                          refine hR (X2, L3, F3, B3) dX6_leastOf_241 ?_ rfl (Nat.le_of_ble_eq_true rfl) (Nat.le_of_ble_eq_true rfl)
                          show y2 = leastS S
                          rw [hy2, hy, show i = S 1 by omega, cost_cg hL.1, hxl]
                          rfl
                        · have f := hI.2.2 i hi.1 (by omega)
                          obtain ⟨e0, e1, e2, e3, e4⟩ := Ag_c hA hi.1 (show i < S 1 by omega)
                          have hxi := hL.1 i hi.1 (by omega)
                          have hXi := hX2 i hi.1 (by omega)
                          have hmb := mulb hxi.1 (show x i ≤ 1000 by omega) f.2.2.2.2.1.1 f.2.2.2.2.1.2
                          rw [← hXi, ← e3] at hmb
                          refine j_iload_n C dX6_leastOf_214 rfl ?_
                          refine j_aload_n C dX6_leastOf_215 rfl ?_
                          refine j_get C 0 0 17 rfl rfl rfl wU_X6 (by decide) wF_X6_37 rfl dX6_leastOf_216 ?_
                          refine j_iload_n C dX6_leastOf_219 rfl ?_
                          refine j_iald C 2 0 rfl rfl dX6_leastOf_220 (by decide) (by omega) (by omega) ?_
                          refine j_aload_n C dX6_leastOf_221 rfl ?_
                          refine j_get C 0 0 0 rfl rfl rfl wU_X6 (by decide) wF_X6_7 rfl dX6_leastOf_222 ?_
                          refine j_iload_n C dX6_leastOf_225 rfl ?_
                          refine j_iconst C dX6_leastOf_226 ?_
                          refine j_perm (pm_6 _ _ _ _ _ _) ?_
                          refine j_callSi C (As := [.int (iI _), .int (iI _)]) (c_X6_p _ _ _ _ _ ) 2 nf_X6_p.2 wL_X6_79 wS_X6_p wIn_X6 wC_X6_p rfl rfl (by decide) dX6_leastOf_227 (Nat.le_of_ble_eq_true rfl) ⟨Nat.le_of_ble_eq_true rfl, Nat.le_of_ble_eq_true rfl⟩ (fun x227 u227 h227 => ?_)
                          refine j_perm (pr_6 _ _ _ _ _ _) ?_
                          subst h227
                          refine j_iald C 1 0 rfl rfl dX6_leastOf_230 (by decide) (by omega) (by omega) ?_
                          refine j_imul C dX6_leastOf_231 ?_
                          refine j_iadd C dX6_leastOf_232 ?_
                          refine j_istn_1 C dX6_leastOf_233 rfl ?_
                          refine j_iinc_2 C dX6_leastOf_234 rfl ?_
                          refine j_goto (tgt := 204) C dX6_leastOf_237 (by decide) ?_
                          exact ih204 _ _ (by omega) (by rw [sumZ_s _ hi.1, hy2, hXi, e3]; omega) (by omega) (by omega)
                    exact L204 _ _ _ (by omega) (by rw [sumZ_0]; omega) (by omega) (Nat.lt_succ_self _)
                  · have hnz := near_ok (meas S x e).1 e
                    rw [← hz] at hnz
                    have hnx := nxt_ok (p := z) hI hL (by omega) (by omega) (by omega) (by omega)
                    have hpe := near_pos hI hL (by omega)
                    have hpn := posE_nn (nxt S x e z).2
                    have hn1 : n = n - 1 + 1 := by omega
                    refine j_aload_n C dX6_leastOf_185 rfl ?_
                    refine j_iload_n C dX6_leastOf_186 rfl ?_
                    refine j_perm (pm_6_0_1_2_3_5 _ _ _ _ _ _) ?_
                    refine j_callVv C (As := [.int (iI _)]) (c_X6_staysMore _ _ _ _ _ _ _ _ _ _ (S) (x) (e) _ (by exact hI) (by exact hA) (by exact hL) (by exact hX2) (by exact hE2) (by exact hM) (by omega) (by omega) (by omega)) 1 nf_X6_staysMore (jb := 0) rfl rfl wL_X6_200 wI_X6_staysMore wSe_X6_X6_staysMore wIn_X6 wC_X6_staysMore rfl rfl (by decide) dX6_leastOf_187 (Nat.le_of_ble_eq_true rfl) ⟨Nat.le_of_ble_eq_true rfl, Nat.le_of_ble_eq_true rfl⟩ (fun u187 h187 => ?_)
                    refine j_perm (pr_6_0_1_2_3_5 _ _ _ _ _ _) ?_
                    obtain ⟨X3, L3⟩ := u187
                    dsimp only at h187 ⊢
                    refine j_aload_n C dX6_leastOf_190 rfl ?_
                    refine j_perm (pm_6_0_1_2_3_4_5 _ _ _ _ _ _) ?_
                    refine j_callVv C (As := []) (c_X6_ways _ _ _ _ _ _ _ _ _ _ (S) ((nxt S x e z).1) ((nxt S x e z).2) (by exact hI) (by exact hA) (by exact hnx.1) (by exact h187.1) (by exact h187.2)) 0 nf_X6_ways (jb := 0) rfl rfl wL_X6_194 wI_X6_ways wSe_X6_X6_ways wIn_X6 wC_X6_ways rfl rfl (by decide) dX6_leastOf_191 (Nat.le_of_ble_eq_true rfl) ⟨Nat.le_of_ble_eq_true rfl, Nat.le_of_ble_eq_true rfl⟩ (fun u191 h191 => ?_)
                    refine j_perm (pr_6_0_1_2_3_4_5 _ _ _ _ _ _) ?_
                    have hb1 := meas_Bd hI hnx.1
                    refine j_aload_n C dX6_leastOf_194 rfl ?_
                    refine j_perm (pm_6_0_3_4 _ _ _ _ _ _) ?_
                    refine j_callVi C (As := []) (c_X6_nearest _ _ _ _ _ _ _ ((nxt S x e z).2) ((meas S (nxt S x e z).1 (nxt S x e z).2).1) (by exact h187.2) (by exact fun q a b => (h191 q a b).1) (by exact hnx.1.2.2) (by exact hb1)) 0 nf_X6_nearest (jb := 0) rfl rfl wL_X6_197 wI_X6_nearest wSe_X6_X6_nearest wIn_X6 wC_X6_nearest rfl rfl (by decide) dX6_leastOf_195 (Nat.le_of_ble_eq_true rfl) ⟨Nat.le_of_ble_eq_true rfl, Nat.le_of_ble_eq_true rfl⟩ (fun x195 u195 h195 => ?_)
                    refine j_perm (pr_6_0_3_4 _ _ _ _ _ _) ?_
                    refine j_istn_2 C dX6_leastOf_198 rfl ?_
                    refine j_goto (tgt := 180) C dX6_leastOf_199 (by decide) ?_
                    exact ih180 _ ((nxt S x e z).1) ((nxt S x e z).2) _ _ _ _ (n - 1) (by exact hnx.1) (by exact h187.1) (by exact h187.2) (by exact h191) (by exact h195) (by omega) (by rw [← hC, hn1, LX_s (by omega), ← hz]; rfl) (by omega)
              exact L180 _ _ (fun _ => 0) (ex0 S) _ _ _ _ (40000) (by exact h00) (by exact hX) (by exact hL1) (by exact h172) (by exact h176) (by omega) (by rfl) (Nat.lt_succ_self _)
            · have f := hI.2.2 i hi.1 (by omega)
              have g := hI.1
              obtain ⟨e0, e1, e2, e3, e4⟩ := Ag_c hA hi.1 (show i < S 1 by omega)
              have hmb := mulb f.2.2.2.1.1 f.2.2.2.1.2 f.2.2.2.2.1.1 f.2.2.2.2.1.2
              have hX2 : AG (i + 1) (st X1 i 0) (fun _ => 0) := fun q a b => by
                by_cases z : q = i
                · subst z; exact st_s _ _ _
                · rw [st_n z]; exact hX q a (by omega)
              refine j_aload_n C dX6_leastOf_35 rfl ?_
              refine j_get C 0 0 17 rfl rfl rfl wU_X6 (by decide) wF_X6_37 rfl dX6_leastOf_36 ?_
              refine j_iload_n C dX6_leastOf_39 rfl ?_
              refine j_iconst C dX6_leastOf_40 ?_
              refine j_iast_p2 C 0 rfl ar1_ast dX6_leastOf_41 (by decide) (by omega) (by omega) ?_
              refine j_aload_n C dX6_leastOf_42 rfl ?_
              have L60 : ∀ (z : Int) (hz : z = if di S i = 0 then 1 else 0), J K 0 0 [mO a G, [(a 1, aJ ((kC K) 0) 325 M)], [(a 10, aJ ((kC K) 0) 40 (st X1 i 0))], [(a 11, aJ ((kC K) 0) 7 L2)], [(a 12, aJ ((kC K) 0) 7 F1)], [(a 13, aJ ((kC K) 0) 7 B1)]] [some (.ref (a 0)), some (.int (iI y)), some (.int (iI i)), none] 60 [.int (iI z)] := by
                intro z hz
                have hzb : z = 0 ∨ z = 1 := by rw [hz]; split <;> omega
                have hzd : (z = 1 ∧ di S i = 0) ∨ (z = 0 ∧ di S i ≠ 0) := by rw [hz]; split <;> omega
                refine j_istn_3 C dX6_leastOf_60 rfl ?_
                refine j_iload_n C dX6_leastOf_61 rfl ?_
                have L91 : ∀ (c : Int) (hc : c = if di S i = 0 then 0 else am S i * ra S i), J K 0 0 [mO a G, [(a 1, aJ ((kC K) 0) 325 M)], [(a 10, aJ ((kC K) 0) 40 (st X1 i 0))], [(a 11, aJ ((kC K) 0) 7 L2)], [(a 12, aJ ((kC K) 0) 7 F1)], [(a 13, aJ ((kC K) 0) 7 B1)]] [some (.ref (a 0)), some (.int (iI y)), some (.int (iI i)), some (.int (iI z))] 91 [.int (iI c), .int (iI y)] := by
                  intro c hc
                  have hcb : 0 ≤ c ∧ c ≤ 9000 := by rw [hc]; split <;> omega
                  refine j_iadd C dX6_leastOf_91 ?_
                  refine j_istn_1 C dX6_leastOf_92 rfl ?_
                  refine j_aload_n C dX6_leastOf_93 rfl ?_
                  refine j_get C 0 0 18 rfl rfl rfl wU_X6 (by decide) wF_X6_40 rfl dX6_leastOf_94 ?_
                  refine j_aload_n C dX6_leastOf_97 rfl ?_
                  refine j_get C 0 0 0 rfl rfl rfl wU_X6 (by decide) wF_X6_7 rfl dX6_leastOf_98 ?_
                  refine j_iload_n C dX6_leastOf_101 rfl ?_
                  refine j_iconst C dX6_leastOf_102 ?_
                  refine j_perm (pm_6 _ _ _ _ _ _) ?_
                  refine j_callSi C (As := [.int (iI _), .int (iI _)]) (c_X6_p _ _ _ _ _ ) 2 nf_X6_p.2 wL_X6_79 wS_X6_p wIn_X6 wC_X6_p rfl rfl (by decide) dX6_leastOf_103 (Nat.le_of_ble_eq_true rfl) ⟨Nat.le_of_ble_eq_true rfl, Nat.le_of_ble_eq_true rfl⟩ (fun x103 u103 h103 => ?_)
                  refine j_perm (pr_6 _ _ _ _ _ _) ?_
                  subst h103
                  refine j_iald C 1 0 rfl rfl dX6_leastOf_106 (by decide) (by omega) (by omega) ?_
                  refine j_dup2 C dX6_leastOf_107 rfl rfl ?_
                  refine j_iald C 3 0 rfl rfl dX6_leastOf_108 (by decide) (by omega) (by omega) ?_
                  have L127 : ∀ (v : Int) (hv : v = if di S i = 0 then am S i else 0), J K 0 0 [mO a G, [(a 1, aJ ((kC K) 0) 325 M)], [(a 10, aJ ((kC K) 0) 40 (st X1 i 0))], [(a 11, aJ ((kC K) 0) 7 L2)], [(a 12, aJ ((kC K) 0) 7 F1)], [(a 13, aJ ((kC K) 0) 7 B1)]] [some (.ref (a 0)), some (.int (iI (y + c))), some (.int (iI i)), some (.int (iI z))] 127 [.int (iI v), .int (iI (L2 (M (5 + 8 * i + 1)))), .int (iI (M (5 + 8 * i + 1))), .ref (a 11)] := by
                    intro v hv
                    refine j_iadd C dX6_leastOf_127 ?_
                    refine j_iast_p3 C 0 rfl ar1_ast dX6_leastOf_128 (by decide) (by omega) (by omega) ?_
                    refine j_aload_n C dX6_leastOf_129 rfl ?_
                    refine j_get C 0 0 18 rfl rfl rfl wU_X6 (by decide) wF_X6_40 rfl dX6_leastOf_130 ?_
                    refine j_aload_n C dX6_leastOf_133 rfl ?_
                    refine j_get C 0 0 0 rfl rfl rfl wU_X6 (by decide) wF_X6_7 rfl dX6_leastOf_134 ?_
                    refine j_iload_n C dX6_leastOf_137 rfl ?_
                    refine j_iconst C dX6_leastOf_138 ?_
                    refine j_perm (pm_6 _ _ _ _ _ _) ?_
                    refine j_callSi C (As := [.int (iI _), .int (iI _)]) (c_X6_p _ _ _ _ _ ) 2 nf_X6_p.2 wL_X6_79 wS_X6_p wIn_X6 wC_X6_p rfl rfl (by decide) dX6_leastOf_139 (Nat.le_of_ble_eq_true rfl) ⟨Nat.le_of_ble_eq_true rfl, Nat.le_of_ble_eq_true rfl⟩ (fun x139 u139 h139 => ?_)
                    refine j_perm (pr_6 _ _ _ _ _ _) ?_
                    subst h139
                    refine j_iald C 1 0 rfl rfl dX6_leastOf_142 (by decide) (by omega) (by omega) ?_
                    refine j_dup2 C dX6_leastOf_143 rfl rfl ?_
                    refine j_iald C 3 0 rfl rfl dX6_leastOf_144 (by decide) (by omega) (by omega) ?_
                    have L163 : ∀ (v2 : Int) (hv2 : v = v2), J K 0 0 [mO a G, [(a 1, aJ ((kC K) 0) 325 M)], [(a 10, aJ ((kC K) 0) 40 (st X1 i 0))], [(a 11, aJ ((kC K) 0) 7 (st L2 (M (5 + 8 * i + 1)) (L2 (M (5 + 8 * i + 1)) + v)))], [(a 12, aJ ((kC K) 0) 7 F1)], [(a 13, aJ ((kC K) 0) 7 B1)]] [some (.ref (a 0)), some (.int (iI (y + c))), some (.int (iI i)), some (.int (iI z))] 163 [.int (iI v2), .int (iI (st L2 (M (5 + 8 * i + 1)) (L2 (M (5 + 8 * i + 1)) + v) (M (5 + 8 * i + 0)))), .int (iI (M (5 + 8 * i + 0))), .ref (a 11)] := by
                      intro v2 hv2
                      refine j_isub C dX6_leastOf_163 ?_
                      refine j_iast_p3 C 0 rfl ar1_ast dX6_leastOf_164 (by decide) (by omega) (by omega) ?_
                      refine j_iinc_2 C dX6_leastOf_165 rfl ?_
                      refine j_goto (tgt := 25) C dX6_leastOf_168 (by decide) ?_
                      exact j_lle (lv' := [_, _, _, none]) ⟨Or.inr rfl, ⟨Or.inr rfl, ⟨Or.inr rfl, ⟨Or.inl rfl, trivial⟩⟩⟩⟩ (ih25 _ _ _ _ (by omega) (by rw [sumZ_s _ hi.1, ← hy, hc]) (by omega) (by exact hX2) (by rw [e0, e1]; rw [← hv2]; exact ngx hI hi.1 (by omega) hL1 hv) (by omega))
                    refine j_iload_n C dX6_leastOf_145 rfl ?_
                    refine j_if_eq (tgt := 162) C dX6_leastOf_146 (by decide) (by omega) (by omega) (fun c146 => ?_) (fun c146 => ?_)
                    · refine j_iconst C dX6_leastOf_162 ?_
                      exact L163 _ (by rw [hv]; first | (rw [if_pos (by omega), e2]; done) | (rw [if_neg (by omega)]; done))
                    · refine j_aload_n C dX6_leastOf_149 rfl ?_
                      refine j_get C 0 0 0 rfl rfl rfl wU_X6 (by decide) wF_X6_7 rfl dX6_leastOf_150 ?_
                      refine j_iload_n C dX6_leastOf_153 rfl ?_
                      refine j_iconst C dX6_leastOf_154 ?_
                      refine j_perm (pm_6 _ _ _ _ _ _) ?_
                      refine j_callSi C (As := [.int (iI _), .int (iI _)]) (c_X6_p _ _ _ _ _ ) 2 nf_X6_p.2 wL_X6_79 wS_X6_p wIn_X6 wC_X6_p rfl rfl (by decide) dX6_leastOf_155 (Nat.le_of_ble_eq_true rfl) ⟨Nat.le_of_ble_eq_true rfl, Nat.le_of_ble_eq_true rfl⟩ (fun x155 u155 h155 => ?_)
                      refine j_perm (pr_6 _ _ _ _ _ _) ?_
                      subst h155
                      refine j_iald C 1 0 rfl rfl dX6_leastOf_158 (by decide) (by omega) (by omega) ?_
                      refine j_goto (tgt := 163) C dX6_leastOf_159 (by decide) ?_
                      exact L163 _ (by rw [hv]; first | (rw [if_pos (by omega), e2]; done) | (rw [if_neg (by omega)]; done))
                  refine j_iload_n C dX6_leastOf_109 rfl ?_
                  refine j_if_eq (tgt := 126) C dX6_leastOf_110 (by decide) (by omega) (by omega) (fun c110 => ?_) (fun c110 => ?_)
                  · refine j_iconst C dX6_leastOf_126 ?_
                    exact L127 _ (by first | (rw [if_pos (by omega), e2]; done) | (rw [if_neg (by omega)]; done))
                  · refine j_aload_n C dX6_leastOf_113 rfl ?_
                    refine j_get C 0 0 0 rfl rfl rfl wU_X6 (by decide) wF_X6_7 rfl dX6_leastOf_114 ?_
                    refine j_iload_n C dX6_leastOf_117 rfl ?_
                    refine j_iconst C dX6_leastOf_118 ?_
                    refine j_perm (pm_6 _ _ _ _ _ _) ?_
                    refine j_callSi C (As := [.int (iI _), .int (iI _)]) (c_X6_p _ _ _ _ _ ) 2 nf_X6_p.2 wL_X6_79 wS_X6_p wIn_X6 wC_X6_p rfl rfl (by decide) dX6_leastOf_119 (Nat.le_of_ble_eq_true rfl) ⟨Nat.le_of_ble_eq_true rfl, Nat.le_of_ble_eq_true rfl⟩ (fun x119 u119 h119 => ?_)
                    refine j_perm (pr_6 _ _ _ _ _ _) ?_
                    subst h119
                    refine j_iald C 1 0 rfl rfl dX6_leastOf_122 (by decide) (by omega) (by omega) ?_
                    refine j_goto (tgt := 127) C dX6_leastOf_123 (by decide) ?_
                    exact L127 _ (by first | (rw [if_pos (by omega), e2]; done) | (rw [if_neg (by omega)]; done))
                refine j_iload_n C dX6_leastOf_62 rfl ?_
                refine j_if_eq (tgt := 70) C dX6_leastOf_63 (by decide) (by omega) (by omega) (fun c63 => ?_) (fun c63 => ?_)
                · refine j_aload_n C dX6_leastOf_70 rfl ?_
                  refine j_get C 0 0 0 rfl rfl rfl wU_X6 (by decide) wF_X6_7 rfl dX6_leastOf_71 ?_
                  refine j_iload_n C dX6_leastOf_74 rfl ?_
                  refine j_iconst C dX6_leastOf_75 ?_
                  refine j_perm (pm_6 _ _ _ _ _ _) ?_
                  refine j_callSi C (As := [.int (iI _), .int (iI _)]) (c_X6_p _ _ _ _ _ ) 2 nf_X6_p.2 wL_X6_79 wS_X6_p wIn_X6 wC_X6_p rfl rfl (by decide) dX6_leastOf_76 (Nat.le_of_ble_eq_true rfl) ⟨Nat.le_of_ble_eq_true rfl, Nat.le_of_ble_eq_true rfl⟩ (fun x76 u76 h76 => ?_)
                  refine j_perm (pr_6 _ _ _ _ _ _) ?_
                  subst h76
                  refine j_iald C 1 0 rfl rfl dX6_leastOf_79 (by decide) (by omega) (by omega) ?_
                  refine j_aload_n C dX6_leastOf_80 rfl ?_
                  refine j_get C 0 0 0 rfl rfl rfl wU_X6 (by decide) wF_X6_7 rfl dX6_leastOf_81 ?_
                  refine j_iload_n C dX6_leastOf_84 rfl ?_
                  refine j_iconst C dX6_leastOf_85 ?_
                  refine j_perm (pm_6 _ _ _ _ _ _) ?_
                  refine j_callSi C (As := [.int (iI _), .int (iI _)]) (c_X6_p _ _ _ _ _ ) 2 nf_X6_p.2 wL_X6_79 wS_X6_p wIn_X6 wC_X6_p rfl rfl (by decide) dX6_leastOf_86 (Nat.le_of_ble_eq_true rfl) ⟨Nat.le_of_ble_eq_true rfl, Nat.le_of_ble_eq_true rfl⟩ (fun x86 u86 h86 => ?_)
                  refine j_perm (pr_6 _ _ _ _ _ _) ?_
                  subst h86
                  refine j_iald C 1 0 rfl rfl dX6_leastOf_89 (by decide) (by omega) (by omega) ?_
                  refine j_imul C dX6_leastOf_90 ?_
                  exact L91 _ (by first | (rw [if_pos (by omega)]; done) | (rw [if_neg (by omega), e2, e3]; done))
                · refine j_iconst C dX6_leastOf_66 ?_
                  refine j_goto (tgt := 91) C dX6_leastOf_67 (by decide) ?_
                  exact L91 _ (by first | (rw [if_pos (by omega)]; done) | (rw [if_neg (by omega), e2, e3]; done))
              refine j_get C 0 0 0 rfl rfl rfl wU_X6 (by decide) wF_X6_7 rfl dX6_leastOf_43 ?_
              refine j_iload_n C dX6_leastOf_46 rfl ?_
              refine j_iconst C dX6_leastOf_47 ?_
              refine j_perm (pm_6 _ _ _ _ _ _) ?_
              refine j_callSi C (As := [.int (iI _), .int (iI _)]) (c_X6_p _ _ _ _ _ ) 2 nf_X6_p.2 wL_X6_79 wS_X6_p wIn_X6 wC_X6_p rfl rfl (by decide) dX6_leastOf_48 (Nat.le_of_ble_eq_true rfl) ⟨Nat.le_of_ble_eq_true rfl, Nat.le_of_ble_eq_true rfl⟩ (fun x48 u48 h48 => ?_)
              refine j_perm (pr_6 _ _ _ _ _ _) ?_
              subst h48
              refine j_iald C 1 0 rfl rfl dX6_leastOf_51 (by decide) (by omega) (by omega) ?_
              refine j_if_ne (tgt := 59) C dX6_leastOf_52 (by decide) (by omega) (by omega) (fun c52 => ?_) (fun c52 => ?_)
              · refine j_iconst C dX6_leastOf_59 ?_
                exact L60 _ (by first | (rw [if_pos (by omega)]; done) | (rw [if_neg (by omega)]; done))
              · refine j_iconst C dX6_leastOf_55 ?_
                refine j_goto (tgt := 60) C dX6_leastOf_56 (by decide) ?_
                exact L60 _ (by first | (rw [if_pos (by omega)]; done) | (rw [if_neg (by omega)]; done))
        exact L25 _ _ _ _ _ (by omega) (by rfl) (by omega) (by intro q a b; omega) (by intro q a b; rw [h1 q a (by omega)]; rfl) (Nat.lt_succ_self _)
      · refine j_aload_n C dX6_leastOf_8 rfl ?_
        refine j_get C 0 0 18 rfl rfl rfl wU_X6 (by decide) wF_X6_40 rfl dX6_leastOf_9 ?_
        refine j_iload_n C dX6_leastOf_12 rfl ?_
        refine j_iconst C dX6_leastOf_13 ?_
        refine j_iast_p3 C 0 rfl ar1_ast dX6_leastOf_14 (by decide) (by omega) (by omega) ?_
        refine j_iinc_1 C dX6_leastOf_15 rfl ?_
        refine j_goto (tgt := 2) C dX6_leastOf_18 (by decide) ?_
        exact ih2 _ _ (by omega) (by intro q a b; by_cases z : q = i; (subst z; exact st_s _ _ _); (rw [st_n z]; exact h1 q a (by omega))) (by omega)
  exact L2 _ _ _ (by omega) (by intro q a b; omega) (Nat.lt_succ_self _)
