/-! the reference: the least cost, its steps -/
theorem pm_5_0_1 (B0 B1 B2 B3 B4 : va_W) : [B0, B1, B2, B3, B4].Perm ([B0, B1] ++ [B2, B3, B4]) := List.Perm.trans (List.Perm.refl _) (List.Perm.cons _ (List.Perm.refl _))
theorem pr_5_0_1 (B0 B1 B2 B3 B4 : va_W) : ([B0, B1] ++ [B2, B3, B4]).Perm [B0, B1, B2, B3, B4] := (pm_5_0_1 B0 B1 B2 B3 B4).symm
set_option maxHeartbeats 800000 in
set_option maxRecDepth 100000 in
theorem c_X6_staysMore (l : Launch) (D : va_G) (cA : Nat → ClassId) (a : Nat → Nat) (G M X L1 F1 B1 S x e : Int → Int) (p : Int) (hI : Inv S) (hA : Ag S M) (hL : LI S x e) (hX : AG (S 1) X x) (hE : NG7 L1 e) (hR0 : RF (meas S x e) F1 B1) (hp : 0 ≤ p ∧ p < 7) (he : e p < 0) (hD : (meas S x e).1 p ≠ FAR) : MV (U := (Int → Int) × (Int → Int)) l yX6_staysMore cX6_staysMore 5 none (rmN 3 0 0) D cA [.ref (a 0), .int (iI p)] [mO a G, [(a 1, aJ (cA 0) 325 M)], [(a 10, aJ (cA 0) 40 X)], [(a 11, aJ (cA 0) 7 L1)], [(a 13, aJ (cA 0) 7 B1)]] (fun u => AG (S 1) u.1 (nxt S x e p).1 ∧ NG7 u.2 (nxt S x e p).2) (fun u => [mO a G, [(a 1, aJ (cA 0) 325 M)], [(a 10, aJ (cA 0) 40 u.1)], [(a 11, aJ (cA 0) 7 u.2)], [(a 13, aJ (cA 0) 7 B1)]]) := by
  refine m_startV pn_X6 rfl (List.forall_mem_cons.mpr ⟨rfl, List.forall_mem_cons.mpr ⟨rfl, fun _ h => absurd h List.not_mem_nil⟩⟩) (Nat.le_of_ble_eq_true rfl) ?_
  intro K C e1 e2 e3 hin hR
  subst e1 e2 e3
  have hN := hI.2.1
  obtain ⟨y, hy⟩ := hL.2.1
  obtain ⟨t, hF, -⟩ := meas_fin hI hy hL.1
  have hpo := push_ok hI hL hp.1 hp.2 he hD
  dsimp only at hpo
  obtain ⟨B, hBd⟩ : ∃ z, z = (meas S x e).2 := ⟨_, rfl⟩
  obtain ⟨Gd, hGd⟩ : ∃ z, z = (meas S x e).1 := ⟨_, rfl⟩
  have hnx : nxt S x e p = (psh x (pth S B 7 p) (muc S x e (pth S B 7 p) (org S B 7 p) p), psE e (org S B 7 p) p (muc S x e (pth S B 7 p) (org S B 7 p) p)) := by rw [hBd]; rfl
  rw [← hBd] at hpo hF
  rw [← hGd] at hF hD
  have hRB : RF (Gd, B) F1 B1 := by rw [hGd, hBd]; exact hR0
  have hEp := hE p hp.1 hp.2
  have hep := hL.2.2 p hp.1 hp.2
  have hpk := pth_ok hI hF 7 p [] hp.1 hp.2 hD List.nodup_nil (fun z hz => absurd hz List.not_mem_nil) rfl
  show J K 0 0 [mO a G, [(a 1, aJ ((kC K) 0) 325 M)], [(a 10, aJ ((kC K) 0) 40 X)], [(a 11, aJ ((kC K) 0) 7 L1)], [(a 13, aJ ((kC K) 0) 7 B1)]] [some (.ref (a 0)), some (.int (iI p)), none, none, none] 0 []
  refine j_aload_n C dX6_staysMore_0 rfl ?_
  refine j_get C 0 0 18 rfl rfl rfl wU_X6 (by decide) wF_X6_40 rfl dX6_staysMore_1 ?_
  refine j_iload_n C dX6_staysMore_4 rfl ?_
  refine j_iald C 3 0 rfl rfl dX6_staysMore_5 (by decide) (by omega) (by omega) ?_
  refine j_istn_2 C dX6_staysMore_6 rfl ?_
  refine j_iload_n C dX6_staysMore_7 rfl ?_
  refine j_istn_3 C dX6_staysMore_8 rfl ?_
  have L9 : ∀ (fuel : Nat) (y o : Int) (n : Nat) (hq : 0 ≤ o ∧ o < 7) (hDq : Gd o ≠ FAR) (hyb : 0 ≤ y ∧ y ≤ 40000) (hor : org S B n o = org S B 7 p) (ho : (pth S B n o).foldl (fun m v => min m (cap S x v)) y = (pth S B 7 p).foldl (fun m v => min m (cap S x v)) (-e p)) (hf9 : n < fuel), J K 0 0 [mO a G, [(a 1, aJ ((kC K) 0) 325 M)], [(a 10, aJ ((kC K) 0) 40 X)], [(a 11, aJ ((kC K) 0) 7 L1)], [(a 13, aJ ((kC K) 0) 7 B1)]] [some (.ref (a 0)), some (.int (iI p)), some (.int (iI y)), some (.int (iI o)), none] 9 [] := by
    intro fuel
    induction fuel with
    | zero => intro y o n hq hDq hyb hor ho hf9; exact absurd hf9 (Nat.not_lt_zero _)
    | succ fuel ih9 =>
      intro y o n hq hDq hyb hor ho hf9
      have hBq : B1 o = B o := (hRB o hq.1 hq.2).2
      have hBr : B o = -1 ∨ (0 ≤ B o / 2 ∧ B o / 2 < S 1) := by
        by_cases z : B o = -1
        · exact Or.inl z
        · exact Or.inr (way_last hI hF hq.1 hq.2 hDq z).1
      refine j_aload_n C dX6_staysMore_9 rfl ?_
      refine j_get C 0 0 20 rfl rfl rfl wU_X6 (by decide) wF_X6_46 rfl dX6_staysMore_10 ?_
      refine j_iload_n C dX6_staysMore_13 rfl ?_
      refine j_iald C 4 0 rfl rfl dX6_staysMore_14 (by decide) (by omega) (by omega) ?_
      refine j_iconst C dX6_staysMore_15 ?_
      refine j_icmp_eq (tgt := 88) C dX6_staysMore_16 (by decide) (by omega) (by omega) (by omega) (by omega) (fun c16 => ?_) (fun c16 => ?_)
      · have hBe : B o = -1 := by omega
        have hqo : o = org S B 7 p := by rw [← hor, org_e hBe]
        rw [pth_e hBe] at ho
        have ho3 : y = (pth S B 7 p).foldl (fun m v => min m (cap S x v)) (-e p) := ho
        have hEq := hE o hq.1 hq.2
        have heq := hL.2.2 o hq.1 hq.2
        refine j_iload_n C dX6_staysMore_88 rfl ?_
        refine j_aload_n C dX6_staysMore_89 rfl ?_
        refine j_get C 0 0 18 rfl rfl rfl wU_X6 (by decide) wF_X6_40 rfl dX6_staysMore_90 ?_
        refine j_iload_n C dX6_staysMore_93 rfl ?_
        refine j_iald C 3 0 rfl rfl dX6_staysMore_94 (by decide) (by omega) (by omega) ?_
        refine j_ineg C dX6_staysMore_95 ?_
        refine j_perm (pm_5 _ _ _ _ _) ?_
        refine j_callSi C (As := [.int (iI _), .int (iI _)]) (c_X6_least _ _ _ _ _ (by first | assumption | omega) (by first | assumption | omega)) 2 nf_X6_least.2 wL_X6_104 wS_X6_least wIn_X6 wC_X6_least rfl rfl (by decide) dX6_staysMore_96 (Nat.le_of_ble_eq_true rfl) ⟨Nat.le_of_ble_eq_true rfl, Nat.le_of_ble_eq_true rfl⟩ (fun x96 u96 h96 => ?_)
        refine j_perm (pr_5 _ _ _ _ _) ?_
        have hmu : x96 = muc S x e (pth S B 7 p) (org S B 7 p) p := by unfold muc; rw [← hqo, ← ho3]; omega
        rw [← hmu] at hnx
        refine j_istn_2 C dX6_staysMore_99 rfl ?_
        refine j_aload_n C dX6_staysMore_100 rfl ?_
        refine j_get C 0 0 18 rfl rfl rfl wU_X6 (by decide) wF_X6_40 rfl dX6_staysMore_101 ?_
        refine j_iload_n C dX6_staysMore_104 rfl ?_
        refine j_dup2 C dX6_staysMore_105 rfl rfl ?_
        refine j_iald C 3 0 rfl rfl dX6_staysMore_106 (by decide) (by omega) (by omega) ?_
        refine j_iload_n C dX6_staysMore_107 rfl ?_
        refine j_iadd C dX6_staysMore_108 ?_
        refine j_iast_p3 C 0 rfl ar1_ast dX6_staysMore_109 (by decide) (by omega) (by omega) ?_
        refine j_aload_n C dX6_staysMore_110 rfl ?_
        refine j_get C 0 0 18 rfl rfl rfl wU_X6 (by decide) wF_X6_40 rfl dX6_staysMore_111 ?_
        refine j_iload_n C dX6_staysMore_114 rfl ?_
        refine j_dup2 C dX6_staysMore_115 rfl rfl ?_
        refine j_iald C 3 0 rfl rfl dX6_staysMore_116 (by decide) (by omega) (by omega) ?_
        refine j_iload_n C dX6_staysMore_117 rfl ?_
        refine j_isub C dX6_staysMore_118 ?_
        refine j_iast_p3 C 0 rfl ar1_ast dX6_staysMore_119 (by decide) (by omega) (by omega) ?_
        refine j_iload_n C dX6_staysMore_120 rfl ?_
        refine j_istn_3 C dX6_staysMore_121 rfl ?_
        have L122 : ∀ (fuel : Nat) (q : Int) (n : Nat) (X1 : Int → Int) (hq9 : 0 ≤ q ∧ q < 7) (hDq9 : Gd q ≠ FAR) (hor2 : org S B n q = org S B 7 p) (ho2 : psh X1 (pth S B n q) x96 = psh X (pth S B 7 p) x96) (hf122 : n < fuel), J K 0 0 [mO a G, [(a 1, aJ ((kC K) 0) 325 M)], [(a 10, aJ ((kC K) 0) 40 X1)], [(a 11, aJ ((kC K) 0) 7 (st (st L1 o (L1 o + x96)) p (st L1 o (L1 o + x96) p - x96)))], [(a 13, aJ ((kC K) 0) 7 B1)]] [some (.ref (a 0)), some (.int (iI p)), some (.int (iI x96)), some (.int (iI q)), none] 122 [] := by
          intro fuel
          induction fuel with
          | zero => intro q n X1 hq9 hDq9 hor2 ho2 hf122; exact absurd hf122 (Nat.not_lt_zero _)
          | succ fuel ih122 =>
            intro q n X1 hq9 hDq9 hor2 ho2 hf122
            have hBq : B1 q = B q := (hRB q hq9.1 hq9.2).2
            have hBr : B q = -1 ∨ (0 ≤ B q / 2 ∧ B q / 2 < S 1) := by
              by_cases z : B q = -1
              · exact Or.inl z
              · exact Or.inr (way_last hI hF hq9.1 hq9.2 hDq9 z).1
            refine j_aload_n C dX6_staysMore_122 rfl ?_
            refine j_get C 0 0 20 rfl rfl rfl wU_X6 (by decide) wF_X6_46 rfl dX6_staysMore_123 ?_
            refine j_iload_n C dX6_staysMore_126 rfl ?_
            refine j_iald C 4 0 rfl rfl dX6_staysMore_127 (by decide) (by omega) (by omega) ?_
            refine j_iconst C dX6_staysMore_128 ?_
            refine j_icmp_eq (tgt := 179) C dX6_staysMore_129 (by decide) (by omega) (by omega) (by omega) (by omega) (fun c129 => ?_) (fun c129 => ?_)
            · refine hR (X1, st (st L1 o (L1 o + x96)) p (st L1 o (L1 o + x96) p - x96)) dX6_staysMore_179 ?_ rfl (Nat.le_of_ble_eq_true rfl) (Nat.le_of_ble_eq_true rfl)
              rw [hnx]
              have hBe : B q = -1 := by omega
              rw [pth_e hBe] at ho2
              have hfin : X1 = psh X (pth S B 7 p) x96 := ho2
              refine ⟨?_, ?_⟩
              · dsimp only
                rw [hfin]
                exact psh_AG _ _ hX
              · unfold psE
                rw [← hqo]
                intro z z0 z1
                have e0 := hE z z0 z1
                dsimp only
                by_cases c : z = p
                · rw [c, st_s, st_s]
                  by_cases c2 : p = o
                  · rw [c2, st_s, st_s]
                    rw [c2] at hEp
                    omega
                  · rw [st_n c2, st_n c2]
                    omega
                · rw [st_n c, st_n c]
                  by_cases c2 : z = o
                  · rw [c2, st_s, st_s]
                    rw [c2] at e0
                    omega
                  · rw [st_n c2, st_n c2]
                    omega
            · have hBn : B q = -1 → False := fun z => by omega
              have w := way_last hI hF hq9.1 hq9.2 hDq9 hBn
              have w1 := w.1
              rw [← hBq] at w1
              have hn1 : n = n - 1 + 1 := by
                have : n ≠ 0 := fun q0 => by
                  rw [q0] at hor2
                  have h3 := hpk.2.2.1
                  rw [← hor2] at h3
                  exact hBn h3
                omega
              refine j_aload_n C dX6_staysMore_132 rfl ?_
              refine j_get C 0 0 17 rfl rfl rfl wU_X6 (by decide) wF_X6_37 rfl dX6_staysMore_133 ?_
              refine j_aload_n C dX6_staysMore_136 rfl ?_
              refine j_get C 0 0 20 rfl rfl rfl wU_X6 (by decide) wF_X6_46 rfl dX6_staysMore_137 ?_
              refine j_iload_n C dX6_staysMore_140 rfl ?_
              refine j_iald C 4 0 rfl rfl dX6_staysMore_141 (by decide) (by omega) (by omega) ?_
              refine j_iconst C dX6_staysMore_142 ?_
              refine j_idiv C dX6_staysMore_143 (by omega) (by omega) (by omega) (by omega) ?_
              have L163 : ∀ (dd : Int) (hdd : dd = if B q % 2 = 0 then x96 else -x96), J K 0 0 [mO a G, [(a 1, aJ ((kC K) 0) 325 M)], [(a 10, aJ ((kC K) 0) 40 X1)], [(a 11, aJ ((kC K) 0) 7 (st (st L1 o (L1 o + x96)) p (st L1 o (L1 o + x96) p - x96)))], [(a 13, aJ ((kC K) 0) 7 B1)]] [some (.ref (a 0)), some (.int (iI p)), some (.int (iI x96)), some (.int (iI q)), none] 163 [.int (iI dd), .int (iI (X1 (B1 q / 2))), .int (iI (B1 q / 2)), .ref (a 10)] := by
                intro dd hdd
                refine j_iadd C dX6_staysMore_163 ?_
                refine j_iast_p2 C 0 rfl ar1_ast dX6_staysMore_164 (by decide) (by omega) (by omega) ?_
                refine j_aload_n C dX6_staysMore_165 rfl ?_
                refine j_aload_n C dX6_staysMore_166 rfl ?_
                refine j_get C 0 0 20 rfl rfl rfl wU_X6 (by decide) wF_X6_46 rfl dX6_staysMore_167 ?_
                refine j_iload_n C dX6_staysMore_170 rfl ?_
                refine j_iald C 4 0 rfl rfl dX6_staysMore_171 (by decide) (by omega) (by omega) ?_
                refine j_perm (pm_5_0_1 _ _ _ _ _) ?_
                refine j_callVi C (As := [.int (iI _)]) (c_X6_ahead _ _ _ _ _ _ _ (B1 q) (by first | assumption | omega) (by first | assumption | omega) (by exact w1)) 1 nf_X6_ahead (jb := 0) rfl rfl wL_X6_191 wI_X6_ahead wSe_X6_X6_ahead wIn_X6 wC_X6_ahead rfl rfl (by decide) dX6_staysMore_172 (Nat.le_of_ble_eq_true rfl) ⟨Nat.le_of_ble_eq_true rfl, Nat.le_of_ble_eq_true rfl⟩ (fun x172 u172 h172 => ?_)
                refine j_perm (pr_5_0_1 _ _ _ _ _) ?_
                rw [hBq] at h172
                refine j_istn_3 C dX6_staysMore_175 rfl ?_
                refine j_goto (tgt := 122) C dX6_staysMore_176 (by decide) ?_
                exact ih122 _ (n - 1) _ (by subst h172; exact w.2.1) (by subst h172; exact w.2.2.1) (by subst h172; rw [← hor2]; rw [hn1, org_s hBn]; rfl) (by subst h172; rw [← ho2]; rw [hn1, pth_s hBn, psh, ← hdd, hBq]; rfl) (by omega)
              refine j_dup2 C dX6_staysMore_144 rfl rfl ?_
              refine j_iald C 2 0 rfl rfl dX6_staysMore_145 (by decide) (by omega) (by omega) ?_
              refine j_aload_n C dX6_staysMore_146 rfl ?_
              refine j_get C 0 0 20 rfl rfl rfl wU_X6 (by decide) wF_X6_46 rfl dX6_staysMore_147 ?_
              refine j_iload_n C dX6_staysMore_150 rfl ?_
              refine j_iald C 4 0 rfl rfl dX6_staysMore_151 (by decide) (by omega) (by omega) ?_
              refine j_iconst C dX6_staysMore_152 ?_
              refine j_irem C dX6_staysMore_153 (by omega) (by omega) (by omega) (by omega) ?_
              refine j_if_ne (tgt := 161) C dX6_staysMore_154 (by decide) (by omega) (by omega) (fun c154 => ?_) (fun c154 => ?_)
              · refine j_iload_n C dX6_staysMore_161 rfl ?_
                refine j_ineg C dX6_staysMore_162 ?_
                exact L163 _ (by first | (rw [if_pos (by omega)]; done) | (rw [if_neg (by omega)]; done))
              · refine j_iload_n C dX6_staysMore_157 rfl ?_
                refine j_goto (tgt := 163) C dX6_staysMore_158 (by decide) ?_
                exact L163 _ (by first | (rw [if_pos (by omega)]; done) | (rw [if_neg (by omega)]; done))
        exact L122 _ _ (7) _ (by omega) (by exact hD) (by rfl) (by rfl) (Nat.lt_succ_self _)
      · have hBn : B o ≠ -1 := by omega
        have w := way_last hI hF hq.1 hq.2 hDq hBn
        have w1 := w.1
        have f := hI.2.2 _ w.1.1 w.1.2
        have hxk := hL.1 _ w.1.1 w.1.2
        have hXk := hX _ w.1.1 w.1.2
        have ec := Ag_c hA w.1.1 w.1.2
        rw [← hBq] at w1 f hxk hXk ec
        have hn1 : n = n - 1 + 1 := by
          have : n ≠ 0 := fun q0 => by
            rw [q0] at hor
            have h3 := hpk.2.2.1
            rw [← hor] at h3
            exact hBn h3
          omega
        refine j_aload_n C dX6_staysMore_19 rfl ?_
        refine j_get C 0 0 20 rfl rfl rfl wU_X6 (by decide) wF_X6_46 rfl dX6_staysMore_20 ?_
        refine j_iload_n C dX6_staysMore_23 rfl ?_
        refine j_iald C 4 0 rfl rfl dX6_staysMore_24 (by decide) (by omega) (by omega) ?_
        refine j_iconst C dX6_staysMore_25 ?_
        refine j_idiv C dX6_staysMore_26 (by omega) (by omega) (by omega) (by omega) ?_
        refine j_ist_4 C dX6_staysMore_27 rfl ?_
        refine j_iload_n C dX6_staysMore_29 rfl ?_
        have L70 : ∀ (cp : Int) (hcp : cp = cap S x (B o)), J K 0 0 [mO a G, [(a 1, aJ ((kC K) 0) 325 M)], [(a 10, aJ ((kC K) 0) 40 X)], [(a 11, aJ ((kC K) 0) 7 L1)], [(a 13, aJ ((kC K) 0) 7 B1)]] [some (.ref (a 0)), some (.int (iI p)), some (.int (iI y)), some (.int (iI o)), none] 70 [.int (iI cp), .int (iI y)] := by
          intro cp hcp
          have hcb : 0 ≤ cp ∧ cp ≤ 1000 := by rw [hcp]; unfold cap; rw [← hBq]; split <;> omega
          refine j_perm (pm_5 _ _ _ _ _) ?_
          refine j_callSi C (As := [.int (iI _), .int (iI _)]) (c_X6_least _ _ _ _ _ (by first | assumption | omega) (by first | assumption | omega)) 2 nf_X6_least.2 wL_X6_104 wS_X6_least wIn_X6 wC_X6_least rfl rfl (by decide) dX6_staysMore_70 (Nat.le_of_ble_eq_true rfl) ⟨Nat.le_of_ble_eq_true rfl, Nat.le_of_ble_eq_true rfl⟩ (fun x70 u70 h70 => ?_)
          refine j_perm (pr_5 _ _ _ _ _) ?_
          refine j_istn_2 C dX6_staysMore_73 rfl ?_
          have hzz : min y (cap S x (B o)) = x70 := by omega
          refine j_aload_n C dX6_staysMore_74 rfl ?_
          refine j_aload_n C dX6_staysMore_75 rfl ?_
          refine j_get C 0 0 20 rfl rfl rfl wU_X6 (by decide) wF_X6_46 rfl dX6_staysMore_76 ?_
          refine j_iload_n C dX6_staysMore_79 rfl ?_
          refine j_iald C 4 0 rfl rfl dX6_staysMore_80 (by decide) (by omega) (by omega) ?_
          refine j_perm (pm_5_0_1 _ _ _ _ _) ?_
          refine j_callVi C (As := [.int (iI _)]) (c_X6_ahead _ _ _ _ _ _ _ (B1 o) (by first | assumption | omega) (by first | assumption | omega) (by exact w1)) 1 nf_X6_ahead (jb := 0) rfl rfl wL_X6_191 wI_X6_ahead wSe_X6_X6_ahead wIn_X6 wC_X6_ahead rfl rfl (by decide) dX6_staysMore_81 (Nat.le_of_ble_eq_true rfl) ⟨Nat.le_of_ble_eq_true rfl, Nat.le_of_ble_eq_true rfl⟩ (fun x81 u81 h81 => ?_)
          refine j_perm (pr_5_0_1 _ _ _ _ _) ?_
          rw [hBq] at h81
          refine j_istn_3 C dX6_staysMore_84 rfl ?_
          refine j_goto (tgt := 9) C dX6_staysMore_85 (by decide) ?_
          exact ih9 _ _ (n - 1) (by subst h81; exact w.2.1) (by subst h81; exact w.2.2.1) (by omega) (by subst h81; rw [← hor]; rw [hn1, org_s hBn]; rfl) (by subst h81; rw [← ho]; rw [hn1, pth_s hBn, List.foldl_cons, hzz]; rfl) (by omega)
        refine j_aload_n C dX6_staysMore_30 rfl ?_
        refine j_get C 0 0 20 rfl rfl rfl wU_X6 (by decide) wF_X6_46 rfl dX6_staysMore_31 ?_
        refine j_iload_n C dX6_staysMore_34 rfl ?_
        refine j_iald C 4 0 rfl rfl dX6_staysMore_35 (by decide) (by omega) (by omega) ?_
        refine j_iconst C dX6_staysMore_36 ?_
        refine j_irem C dX6_staysMore_37 (by omega) (by omega) (by omega) (by omega) ?_
        refine j_if_ne (tgt := 63) C dX6_staysMore_38 (by decide) (by omega) (by omega) (fun c38 => ?_) (fun c38 => ?_)
        · refine j_aload_n C dX6_staysMore_63 rfl ?_
          refine j_get C 0 0 17 rfl rfl rfl wU_X6 (by decide) wF_X6_37 rfl dX6_staysMore_64 ?_
          refine j_iload C dX6_staysMore_67 rfl ?_
          refine j_iald C 2 0 rfl rfl dX6_staysMore_69 (by decide) (by omega) (by omega) ?_
          exact j_lle (lv' := [_, _, _, _, none]) ⟨Or.inr rfl, ⟨Or.inr rfl, ⟨Or.inr rfl, ⟨Or.inr rfl, ⟨Or.inl rfl, trivial⟩⟩⟩⟩⟩ (L70 _ (by unfold cap; rw [← hBq]; first | (rw [if_pos (by omega)]; omega) | (rw [if_neg (by omega)]; omega)))
        · refine j_aload_n C dX6_staysMore_41 rfl ?_
          refine j_get C 0 0 0 rfl rfl rfl wU_X6 (by decide) wF_X6_7 rfl dX6_staysMore_42 ?_
          refine j_iload C dX6_staysMore_45 rfl ?_
          refine j_iconst C dX6_staysMore_47 ?_
          refine j_perm (pm_5 _ _ _ _ _) ?_
          refine j_callSi C (As := [.int (iI _), .int (iI _)]) (c_X6_p _ _ _ _ _ ) 2 nf_X6_p.2 wL_X6_79 wS_X6_p wIn_X6 wC_X6_p rfl rfl (by decide) dX6_staysMore_48 (Nat.le_of_ble_eq_true rfl) ⟨Nat.le_of_ble_eq_true rfl, Nat.le_of_ble_eq_true rfl⟩ (fun x48 u48 h48 => ?_)
          refine j_perm (pr_5 _ _ _ _ _) ?_
          subst h48
          refine j_iald C 1 0 rfl rfl dX6_staysMore_51 (by decide) (by omega) (by omega) ?_
          refine j_aload_n C dX6_staysMore_52 rfl ?_
          refine j_get C 0 0 17 rfl rfl rfl wU_X6 (by decide) wF_X6_37 rfl dX6_staysMore_53 ?_
          refine j_iload C dX6_staysMore_56 rfl ?_
          refine j_iald C 2 0 rfl rfl dX6_staysMore_58 (by decide) (by omega) (by omega) ?_
          refine j_isub C dX6_staysMore_59 ?_
          refine j_goto (tgt := 70) C dX6_staysMore_60 (by decide) ?_
          exact j_lle (lv' := [_, _, _, _, none]) ⟨Or.inr rfl, ⟨Or.inr rfl, ⟨Or.inr rfl, ⟨Or.inr rfl, ⟨Or.inl rfl, trivial⟩⟩⟩⟩⟩ (L70 _ (by unfold cap; rw [← hBq]; first | (rw [if_pos (by omega)]; omega) | (rw [if_neg (by omega)]; omega)))
  exact L9 _ _ _ (7) (by omega) (by exact hD) (by omega) (by rfl) (by rw [hEp]) (Nat.lt_succ_self _)
