/-! the class: the digest -/
/-- as an int holds it -/
def ndI (x : Int) : Int := (iI x).toInt
theorem lI_nI (x : Int) : (iI x).toInt64 = lI (ndI x) := by
  have h1 := Int32.le_toInt (iI x)
  have h2 := Int32.toInt_lt (iI x)
  rw [← Int64.toInt_inj, Int32.toInt_toInt64]
  exact (Int64.toInt_ofInt_of_le (by omega) (by omega)).symm
theorem j_i2lN {K : KT} {cc : ByteArray} {nL : Nat} {own : String} {ret : Option FieldType} {rm : Room} {ce sl pc : Nat} {ws : List va_W} {lv : List (Option Value)} {sk : List Value} (C : Cx K cc nL own ret rm) {x : Int} (hd : decode cc pc = .ok (.i2l, 1)) (k : J K ce sl ws lv (pc + 1) (.long (lI (ndI x)) :: sk)) : J K ce sl ws lv pc (.int (iI x) :: sk) := fun H locs ls hP hD hS hl => lv_i2l C.1 C.2.1 hd (lI_nI x) (k H locs ls hP hD hS hl)
def hA (f : Int → Int) : Nat → Int → Int
  | 0, h => h
  | n + 1, h => 31 * hA f n h + f n
theorem hA_0 {f : Int → Int} {h : Int} : hA f 0 h = h := rfl
theorem hA_s {f : Int → Int} {k h : Int} (hk : 0 ≤ k) : hA f (k + 1).toNat h = 31 * hA f k.toNat h + f k := by
  rw [show (k + 1).toNat = k.toNat + 1 by omega, hA, show ((k.toNat : Nat) : Int) = k by omega]
def hP (S : Int → Int) : Nat → Int → Int
  | 0, h => h
  | n + 1, h => hA (fun j => ndI (debS S n j)) (S 0).toNat (31 * hP S n h + ndI (netS S n))
theorem hP_0 {S : Int → Int} {h : Int} : hP S 0 h = h := rfl
theorem hP_s {S : Int → Int} {k h : Int} (hk : 0 ≤ k) : hP S (k + 1).toNat h = hA (fun j => ndI (debS S k j)) (S 0).toNat (31 * hP S k.toNat h + ndI (netS S k)) := by
  rw [show (k + 1).toNat = k.toNat + 1 by omega, hP, show ((k.toNat : Nat) : Int) = k by omega]
def digS (S : Int → Int) (n c : Int) : Int := 31 * (31 * (31 * hP S (S 0).toNat (hA (fun k => ndI (S (5 + k))) (8 * S 1).toNat (hA (fun w => ndI (valS S w)) 11 (114731 + ndI n))) + ndI (best S)) + ndI (leastS S)) + ndI c
theorem pm_14_0_1_2_3_4_5_6_7 (B0 B1 B2 B3 B4 B5 B6 B7 B8 B9 B10 B11 B12 B13 : va_W) : [B0, B1, B2, B3, B4, B5, B6, B7, B8, B9, B10, B11, B12, B13].Perm ([B0, B1, B2, B3, B4, B5, B6, B7] ++ [B8, B9, B10, B11, B12, B13]) := List.Perm.trans (List.Perm.refl _) (List.Perm.trans (List.Perm.cons _ (List.Perm.refl _)) (List.Perm.trans (List.Perm.cons _ (List.Perm.cons _ (List.Perm.refl _))) (List.Perm.trans (List.Perm.cons _ (List.Perm.cons _ (List.Perm.cons _ (List.Perm.refl _)))) (List.Perm.trans (List.Perm.cons _ (List.Perm.cons _ (List.Perm.cons _ (List.Perm.cons _ (List.Perm.refl _))))) (List.Perm.trans (List.Perm.cons _ (List.Perm.cons _ (List.Perm.cons _ (List.Perm.cons _ (List.Perm.cons _ (List.Perm.refl _)))))) (List.Perm.trans (List.Perm.cons _ (List.Perm.cons _ (List.Perm.cons _ (List.Perm.cons _ (List.Perm.cons _ (List.Perm.cons _ (List.Perm.refl _))))))) (List.Perm.cons _ (List.Perm.cons _ (List.Perm.cons _ (List.Perm.cons _ (List.Perm.cons _ (List.Perm.cons _ (List.Perm.cons _ (List.Perm.refl _))))))))))))))
theorem pr_14_0_1_2_3_4_5_6_7 (B0 B1 B2 B3 B4 B5 B6 B7 B8 B9 B10 B11 B12 B13 : va_W) : ([B0, B1, B2, B3, B4, B5, B6, B7] ++ [B8, B9, B10, B11, B12, B13]).Perm [B0, B1, B2, B3, B4, B5, B6, B7, B8, B9, B10, B11, B12, B13] := (pm_14_0_1_2_3_4_5_6_7 B0 B1 B2 B3 B4 B5 B6 B7 B8 B9 B10 B11 B12 B13).symm
theorem pm_14_0_7 (B0 B1 B2 B3 B4 B5 B6 B7 B8 B9 B10 B11 B12 B13 : va_W) : [B0, B1, B2, B3, B4, B5, B6, B7, B8, B9, B10, B11, B12, B13].Perm ([B0, B7] ++ [B1, B2, B3, B4, B5, B6, B8, B9, B10, B11, B12, B13]) := List.Perm.trans (List.Perm.refl _) (List.Perm.cons _ (List.perm_middle (l₁ := [B1, B2, B3, B4, B5, B6]) (a := B7) (l₂ := [B8, B9, B10, B11, B12, B13])))
theorem pr_14_0_7 (B0 B1 B2 B3 B4 B5 B6 B7 B8 B9 B10 B11 B12 B13 : va_W) : ([B0, B7] ++ [B1, B2, B3, B4, B5, B6, B8, B9, B10, B11, B12, B13]).Perm [B0, B1, B2, B3, B4, B5, B6, B7, B8, B9, B10, B11, B12, B13] := (pm_14_0_7 B0 B1 B2 B3 B4 B5 B6 B7 B8 B9 B10 B11 B12 B13).symm
theorem pm_14_7 (B0 B1 B2 B3 B4 B5 B6 B7 B8 B9 B10 B11 B12 B13 : va_W) : [B0, B1, B2, B3, B4, B5, B6, B7, B8, B9, B10, B11, B12, B13].Perm ([B7] ++ [B0, B1, B2, B3, B4, B5, B6, B8, B9, B10, B11, B12, B13]) := List.perm_middle (l₁ := [B0, B1, B2, B3, B4, B5, B6]) (a := B7) (l₂ := [B8, B9, B10, B11, B12, B13])
theorem pr_14_7 (B0 B1 B2 B3 B4 B5 B6 B7 B8 B9 B10 B11 B12 B13 : va_W) : ([B7] ++ [B0, B1, B2, B3, B4, B5, B6, B8, B9, B10, B11, B12, B13]).Perm [B0, B1, B2, B3, B4, B5, B6, B7, B8, B9, B10, B11, B12, B13] := (pm_14_7 B0 B1 B2 B3 B4 B5 B6 B7 B8 B9 B10 B11 B12 B13).symm
theorem pm_14_8_9_10_11_12_7 (B0 B1 B2 B3 B4 B5 B6 B7 B8 B9 B10 B11 B12 B13 : va_W) : [B0, B1, B2, B3, B4, B5, B6, B7, B8, B9, B10, B11, B12, B13].Perm ([B8, B9, B10, B11, B12, B7] ++ [B0, B1, B2, B3, B4, B5, B6, B13]) := List.Perm.trans (List.perm_middle (l₁ := [B0, B1, B2, B3, B4, B5, B6, B7]) (a := B8) (l₂ := [B9, B10, B11, B12, B13])) (List.Perm.trans (List.Perm.cons _ (List.perm_middle (l₁ := [B0, B1, B2, B3, B4, B5, B6, B7]) (a := B9) (l₂ := [B10, B11, B12, B13]))) (List.Perm.trans (List.Perm.cons _ (List.Perm.cons _ (List.perm_middle (l₁ := [B0, B1, B2, B3, B4, B5, B6, B7]) (a := B10) (l₂ := [B11, B12, B13])))) (List.Perm.trans (List.Perm.cons _ (List.Perm.cons _ (List.Perm.cons _ (List.perm_middle (l₁ := [B0, B1, B2, B3, B4, B5, B6, B7]) (a := B11) (l₂ := [B12, B13]))))) (List.Perm.trans (List.Perm.cons _ (List.Perm.cons _ (List.Perm.cons _ (List.Perm.cons _ (List.perm_middle (l₁ := [B0, B1, B2, B3, B4, B5, B6, B7]) (a := B12) (l₂ := [B13])))))) (List.Perm.cons _ (List.Perm.cons _ (List.Perm.cons _ (List.Perm.cons _ (List.Perm.cons _ (List.perm_middle (l₁ := [B0, B1, B2, B3, B4, B5, B6]) (a := B7) (l₂ := [B13])))))))))))
theorem pr_14_8_9_10_11_12_7 (B0 B1 B2 B3 B4 B5 B6 B7 B8 B9 B10 B11 B12 B13 : va_W) : ([B8, B9, B10, B11, B12, B7] ++ [B0, B1, B2, B3, B4, B5, B6, B13]).Perm [B0, B1, B2, B3, B4, B5, B6, B7, B8, B9, B10, B11, B12, B13] := (pm_14_8_9_10_11_12_7 B0 B1 B2 B3 B4 B5 B6 B7 B8 B9 B10 B11 B12 B13).symm
set_option maxHeartbeats 4000000 in
set_option maxRecDepth 100000 in
theorem c_X5_digest (l : Launch) (D : va_G) (cA : Nat → ClassId) (q v : Nat) (b tb r m o d : Nat → Nat) (c : Int) (z : Int) (X F Nx f S : Int → Int) (X9 E9 D9 B9 O : Int → Int) (hI : Inv S) : ML (U := ((Int → Int) × (Int → Int) × (Int → Int) × (Int → Int)) × (Int → Int) × (Int → Int) × (Int → Int) × (Int → Int)) l yX5_digest cX5_digest 5 (some .long) (rmN 27 0 0) D cA [.ref (q)] [prO q v b tb r m o c, rgO r (d 0) z, dbO d, [(d 1, aJ (cA 0) 49 X)], [(d 2, aJ (cA 0) 49 F)], [(d 3, aJ (cA 0) 40 Nx)], [(r 1, aJ (cA 0) 2365 f)], bk cA b S, rmO m, [(m 1, aJ (cA 0) 40 X9)], [(m 2, aJ (cA 0) 7 E9)], [(m 3, aJ (cA 0) 7 D9)], [(m 4, aJ (cA 0) 7 B9)], orO o O] (fun x _ => x = digS S (O 0) c) (fun u => [prO q v b tb r m o c, rgO r (d 0) ((RS S).length : Int), dbO d, [(d 1, aJ (cA 0) 49 u.1.1)], [(d 2, aJ (cA 0) 49 u.1.2.1)], [(d 3, aJ (cA 0) 40 u.1.2.2.1)], [(r 1, aJ (cA 0) 2365 u.1.2.2.2)], bk cA b S, rmO m, [(m 1, aJ (cA 0) 40 u.2.1)], [(m 2, aJ (cA 0) 7 u.2.2.1)], [(m 3, aJ (cA 0) 7 u.2.2.2.1)], [(m 4, aJ (cA 0) 7 u.2.2.2.2)], orO o O]) := by
  refine m_startL pn_X5 rfl (List.forall_mem_cons.mpr ⟨rfl, fun _ h => absurd h List.not_mem_nil⟩) (Nat.le_of_ble_eq_true rfl) ?_
  intro K C e1 e2 e3 hin hR
  subst e1 e2 e3
  have hN := hI.2.1
  have hQ := hI.1
  show J K 0 0 [prO q v b tb r m o c, rgO r (d 0) z, dbO d, [(d 1, aJ ((kC K) 0) 49 X)], [(d 2, aJ ((kC K) 0) 49 F)], [(d 3, aJ ((kC K) 0) 40 Nx)], [(r 1, aJ ((kC K) 0) 2365 f)], bk (kC K) b S, rmO m, [(m 1, aJ ((kC K) 0) 40 X9)], [(m 2, aJ ((kC K) 0) 7 E9)], [(m 3, aJ ((kC K) 0) 7 D9)], [(m 4, aJ ((kC K) 0) 7 B9)], orO o O] [some (.ref (q)), none, none, none, none] 0 []
  refine j_ldc2 C 114731 (by decide) wN_X5_267 dX5_digest_0 ?_
  refine j_aload_n C dX5_digest_3 rfl ?_
  refine j_get C 0 0 4 rfl rfl rfl wU_X5 (by decide) wF_X5_36 rfl dX5_digest_4 ?_
  refine j_getN C 13 0 1 rfl rfl rfl wU_X2 (by decide) wFN_X5_244 rfl dX5_digest_7 ?_
  refine j_i2lN C dX5_digest_10 ?_
  refine j_ladd C dX5_digest_11 ?_
  refine j_lstn_1 C dX5_digest_12 rfl ?_
  refine j_iconst C dX5_digest_13 ?_
  refine j_istn_3 C dX5_digest_14 rfl ?_
  have L15 : ∀ (fuel : Nat) (h k z1 : Int) (X1 F1 N1 f1 : Int → Int) (hk : 0 ≤ k ∧ k ≤ 11) (hh : h = hA (fun w => ndI (valS S w)) k.toNat (114731 + ndI (O 0))) (hf15 : (11 - k).toNat < fuel), J K 0 0 [prO q v b tb r m o c, rgO r (d 0) z1, dbO d, [(d 1, aJ ((kC K) 0) 49 X1)], [(d 2, aJ ((kC K) 0) 49 F1)], [(d 3, aJ ((kC K) 0) 40 N1)], [(r 1, aJ ((kC K) 0) 2365 f1)], bk (kC K) b S, rmO m, [(m 1, aJ ((kC K) 0) 40 X9)], [(m 2, aJ ((kC K) 0) 7 E9)], [(m 3, aJ ((kC K) 0) 7 D9)], [(m 4, aJ ((kC K) 0) 7 B9)], orO o O] [some (.ref (q)), some (.long (lI h)), none, some (.int (iI k)), none] 15 [] := by
    intro fuel
    induction fuel with
    | zero => intro h k z1 X1 F1 N1 f1 hk hh hf15; exact absurd hf15 (Nat.not_lt_zero _)
    | succ fuel ih15 =>
      intro h k z1 X1 F1 N1 f1 hk hh hf15
      refine j_iload_n C dX5_digest_15 rfl ?_
      refine j_bipush C dX5_digest_16 (by decide) ?_
      refine j_icmp_ge (tgt := 40) C dX5_digest_18 (by decide) (by omega) (by omega) (by omega) (by omega) (fun c18 => ?_) (fun c18 => ?_)
      · refine j_iconst C dX5_digest_40 ?_
        refine j_istn_3 C dX5_digest_41 rfl ?_
        have L42 : ∀ (fuel : Nat) (h i : Int) (hi : 0 ≤ i ∧ i ≤ S 1) (hh2 : h = hA (fun k => ndI (S (5 + k))) (8 * i).toNat (hA (fun w => ndI (valS S w)) 11 (114731 + ndI (O 0)))) (hf42 : (S 1 - i).toNat < fuel), J K 0 0 [prO q v b tb r m o c, rgO r (d 0) z1, dbO d, [(d 1, aJ ((kC K) 0) 49 X1)], [(d 2, aJ ((kC K) 0) 49 F1)], [(d 3, aJ ((kC K) 0) 40 N1)], [(r 1, aJ ((kC K) 0) 2365 f1)], bk (kC K) b S, rmO m, [(m 1, aJ ((kC K) 0) 40 X9)], [(m 2, aJ ((kC K) 0) 7 E9)], [(m 3, aJ ((kC K) 0) 7 D9)], [(m 4, aJ ((kC K) 0) 7 B9)], orO o O] [some (.ref (q)), some (.long (lI h)), none, some (.int (iI i)), none] 42 [] := by
          intro fuel
          induction fuel with
          | zero => intro h i hi hh2 hf42; exact absurd hf42 (Nat.not_lt_zero _)
          | succ fuel ih42 =>
            intro h i hi hh2 hf42
            refine j_iload_n C dX5_digest_42 rfl ?_
            refine j_aload_n C dX5_digest_43 rfl ?_
            refine j_get C 0 0 0 rfl rfl rfl wU_X5 (by decide) wF_X5_12 rfl dX5_digest_44 ?_
            refine j_getN C 7 0 1 rfl rfl rfl wU_X0 (by decide) wFN_X5_54 rfl dX5_digest_47 ?_
            refine j_icmp_ge (tgt := 90) C dX5_digest_50 (by decide) (by omega) (by omega) (by omega) (by omega) (fun c50 => ?_) (fun c50 => ?_)
            · refine j_iconst C dX5_digest_90 ?_
              refine j_istn_3 C dX5_digest_91 rfl ?_
              have L92 : ∀ (fuel : Nat) (h p : Int) (hp : 0 ≤ p ∧ p ≤ S 0) (hh4 : h = hP S p.toNat (hA (fun k => ndI (S (5 + k))) (8 * S 1).toNat (hA (fun w => ndI (valS S w)) 11 (114731 + ndI (O 0))))) (hf92 : (S 0 - p).toNat < fuel), J K 0 0 [prO q v b tb r m o c, rgO r (d 0) z1, dbO d, [(d 1, aJ ((kC K) 0) 49 X1)], [(d 2, aJ ((kC K) 0) 49 F1)], [(d 3, aJ ((kC K) 0) 40 N1)], [(r 1, aJ ((kC K) 0) 2365 f1)], bk (kC K) b S, rmO m, [(m 1, aJ ((kC K) 0) 40 X9)], [(m 2, aJ ((kC K) 0) 7 E9)], [(m 3, aJ ((kC K) 0) 7 D9)], [(m 4, aJ ((kC K) 0) 7 B9)], orO o O] [some (.ref (q)), some (.long (lI h)), none, some (.int (iI p)), none] 92 [] := by
                intro fuel
                induction fuel with
                | zero => intro h p hp hh4 hf92; exact absurd hf92 (Nat.not_lt_zero _)
                | succ fuel ih92 =>
                  intro h p hp hh4 hf92
                  refine j_iload_n C dX5_digest_92 rfl ?_
                  refine j_aload_n C dX5_digest_93 rfl ?_
                  refine j_get C 0 0 0 rfl rfl rfl wU_X5 (by decide) wF_X5_12 rfl dX5_digest_94 ?_
                  refine j_getN C 7 0 0 rfl rfl rfl wU_X0 (by decide) wFN_X5_177 rfl dX5_digest_97 ?_
                  refine j_icmp_ge (tgt := 164) C dX5_digest_100 (by decide) (by omega) (by omega) (by omega) (by omega) (fun c100 => ?_) (fun c100 => ?_)
                  · refine j_ldc2 C 31 (by decide) wN_X5_269 dX5_digest_164 ?_
                    refine j_lload_n C dX5_digest_167 rfl ?_
                    refine j_lmul C dX5_digest_168 ?_
                    refine j_aload_n C dX5_digest_169 rfl ?_
                    refine j_perm (pm_14_0_1_2_3_4_5_6_7 _ _ _ _ _ _ _ _ _ _ _ _ _ _) ?_
                    refine j_callVi C (As := []) (c_X5_bestRing _ _ _ _ _ _ _ _ _ _ (d) _ _ _ _ _ _ _ (by first | assumption | omega)) 0 nf_X5_bestRing (jb := 0) rfl rfl wL_X5_277 wI_X5_bestRing wSe_X5_X5_bestRing wIn_X5 wC_X5_bestRing rfl rfl (by decide) dX5_digest_170 (Nat.le_of_ble_eq_true rfl) ⟨Nat.le_of_ble_eq_true rfl, Nat.le_of_ble_eq_true rfl⟩ (fun x170 u170 h170 => ?_)
                    refine j_perm (pr_14_0_1_2_3_4_5_6_7 _ _ _ _ _ _ _ _ _ _ _ _ _ _) ?_
                    refine j_i2lN C dX5_digest_173 ?_
                    refine j_ladd C dX5_digest_174 ?_
                    refine j_lstn_1 C dX5_digest_175 rfl ?_
                    refine j_ldc2 C 31 (by decide) wN_X5_269 dX5_digest_176 ?_
                    refine j_lload_n C dX5_digest_179 rfl ?_
                    refine j_lmul C dX5_digest_180 ?_
                    refine j_aload_n C dX5_digest_181 rfl ?_
                    refine j_get C 0 0 3 rfl rfl rfl wU_X5 (by decide) wF_X5_29 rfl dX5_digest_182 ?_
                    refine j_aload_n C dX5_digest_185 rfl ?_
                    refine j_get C 0 0 0 rfl rfl rfl wU_X5 (by decide) wF_X5_12 rfl dX5_digest_186 ?_
                    refine j_perm (pm_14_8_9_10_11_12_7 _ _ _ _ _ _ _ _ _ _ _ _ _ _) ?_
                    refine j_callVi C (As := [.ref _]) (c_X3_leastCostOf _ _ _ _ _ _ _ _ _ _ (by first | assumption | omega)) 1 nf_X3_leastCostOf (jb := 0) rfl rfl wL_X5_219 wI_X3_leastCostOf wSe_X3_X3_leastCostOf wIn_X3 wC_X3_leastCostOf rfl rfl (by decide) dX5_digest_189 (Nat.le_of_ble_eq_true rfl) ⟨Nat.le_of_ble_eq_true rfl, Nat.le_of_ble_eq_true rfl⟩ (fun x189 u189 h189 => ?_)
                    refine j_perm (pr_14_8_9_10_11_12_7 _ _ _ _ _ _ _ _ _ _ _ _ _ _) ?_
                    refine j_i2lN C dX5_digest_192 ?_
                    refine j_ladd C dX5_digest_193 ?_
                    refine j_lstn_1 C dX5_digest_194 rfl ?_
                    refine j_ldc2 C 31 (by decide) wN_X5_269 dX5_digest_195 ?_
                    refine j_lload_n C dX5_digest_198 rfl ?_
                    refine j_lmul C dX5_digest_199 ?_
                    refine j_aload_n C dX5_digest_200 rfl ?_
                    refine j_get C 0 0 6 rfl rfl rfl wU_X5 (by decide) wF_X5_262 rfl dX5_digest_201 ?_
                    refine j_i2lN C dX5_digest_204 ?_
                    refine j_ladd C dX5_digest_205 ?_
                    exact hR (u170, u189) dX5_digest_206 (by unfold digS; rw [h170, h189, hh4, show p = S 0 by omega]) rfl (Nat.le_of_ble_eq_true rfl) (Nat.le_of_ble_eq_true rfl)
                  · refine j_ldc2 C 31 (by decide) wN_X5_269 dX5_digest_103 ?_
                    refine j_lload_n C dX5_digest_106 rfl ?_
                    refine j_lmul C dX5_digest_107 ?_
                    refine j_aload_n C dX5_digest_108 rfl ?_
                    refine j_get C 0 0 0 rfl rfl rfl wU_X5 (by decide) wF_X5_12 rfl dX5_digest_109 ?_
                    refine j_iload_n C dX5_digest_112 rfl ?_
                    refine j_perm (pm_14_7 _ _ _ _ _ _ _ _ _ _ _ _ _ _) ?_
                    refine j_callVi C (As := [.int (iI _)]) (c_X0_netOf _ _ _ _ _ _ (by first | assumption | omega) (by first | assumption | omega)) 1 nf_X0_netOf (jb := 0) rfl rfl wL_X5_169 wI_X0_netOf wSe_X0_X0_netOf wIn_X0 wC_X0_netOf rfl rfl (by decide) dX5_digest_113 (Nat.le_of_ble_eq_true rfl) ⟨Nat.le_of_ble_eq_true rfl, Nat.le_of_ble_eq_true rfl⟩ (fun x113 u113 h113 => ?_)
                    refine j_perm (pr_14_7 _ _ _ _ _ _ _ _ _ _ _ _ _ _) ?_
                    refine j_i2lN C dX5_digest_116 ?_
                    refine j_ladd C dX5_digest_117 ?_
                    refine j_lstn_1 C dX5_digest_118 rfl ?_
                    refine j_iconst C dX5_digest_119 ?_
                    refine j_ist_4 C dX5_digest_120 rfl ?_
                    have L122 : ∀ (fuel : Nat) (h j : Int) (hj : 0 ≤ j ∧ j ≤ S 0) (hh5 : h = hA (fun j => ndI (debS S p j)) j.toNat (31 * hP S p.toNat (hA (fun k => ndI (S (5 + k))) (8 * S 1).toNat (hA (fun w => ndI (valS S w)) 11 (114731 + ndI (O 0)))) + ndI (netS S p))) (hf122 : (S 0 - j).toNat < fuel), J K 0 0 [prO q v b tb r m o c, rgO r (d 0) z1, dbO d, [(d 1, aJ ((kC K) 0) 49 X1)], [(d 2, aJ ((kC K) 0) 49 F1)], [(d 3, aJ ((kC K) 0) 40 N1)], [(r 1, aJ ((kC K) 0) 2365 f1)], bk (kC K) b S, rmO m, [(m 1, aJ ((kC K) 0) 40 X9)], [(m 2, aJ ((kC K) 0) 7 E9)], [(m 3, aJ ((kC K) 0) 7 D9)], [(m 4, aJ ((kC K) 0) 7 B9)], orO o O] [some (.ref (q)), some (.long (lI h)), none, some (.int (iI p)), some (.int (iI j))] 122 [] := by
                      intro fuel
                      induction fuel with
                      | zero => intro h j hj hh5 hf122; exact absurd hf122 (Nat.not_lt_zero _)
                      | succ fuel ih122 =>
                        intro h j hj hh5 hf122
                        refine j_iload C dX5_digest_122 rfl ?_
                        refine j_aload_n C dX5_digest_124 rfl ?_
                        refine j_get C 0 0 0 rfl rfl rfl wU_X5 (by decide) wF_X5_12 rfl dX5_digest_125 ?_
                        refine j_getN C 7 0 0 rfl rfl rfl wU_X0 (by decide) wFN_X5_177 rfl dX5_digest_128 ?_
                        refine j_icmp_ge (tgt := 158) C dX5_digest_131 (by decide) (by omega) (by omega) (by omega) (by omega) (fun c131 => ?_) (fun c131 => ?_)
                        · refine j_iinc_3 C dX5_digest_158 rfl ?_
                          refine j_goto (tgt := 92) C dX5_digest_161 (by decide) ?_
                          exact j_lle (lv' := [_, _, none, _, none]) ⟨Or.inr rfl, ⟨Or.inr rfl, ⟨Or.inl rfl, ⟨Or.inr rfl, ⟨Or.inl rfl, trivial⟩⟩⟩⟩⟩ (ih92 _ _ (by omega) (by rw [hh5, show j = S 0 by omega, hP_s hp.1]) (by omega))
                        · refine j_ldc2 C 31 (by decide) wN_X5_269 dX5_digest_134 ?_
                          refine j_lload_n C dX5_digest_137 rfl ?_
                          refine j_lmul C dX5_digest_138 ?_
                          refine j_aload_n C dX5_digest_139 rfl ?_
                          refine j_get C 0 0 0 rfl rfl rfl wU_X5 (by decide) wF_X5_12 rfl dX5_digest_140 ?_
                          refine j_iload_n C dX5_digest_143 rfl ?_
                          refine j_iload C dX5_digest_144 rfl ?_
                          refine j_perm (pm_14_7 _ _ _ _ _ _ _ _ _ _ _ _ _ _) ?_
                          refine j_callVi C (As := [.int (iI _), .int (iI _)]) (c_X0_debtBetween _ _ _ _ _ _ _ (by first | assumption | omega) (by first | assumption | omega) (by first | assumption | omega)) 2 nf_X0_debtBetween (jb := 0) rfl rfl wL_X5_165 wI_X0_debtBetween wSe_X0_X0_debtBetween wIn_X0 wC_X0_debtBetween rfl rfl (by decide) dX5_digest_146 (Nat.le_of_ble_eq_true rfl) ⟨Nat.le_of_ble_eq_true rfl, Nat.le_of_ble_eq_true rfl⟩ (fun x146 u146 h146 => ?_)
                          refine j_perm (pr_14_7 _ _ _ _ _ _ _ _ _ _ _ _ _ _) ?_
                          refine j_i2lN C dX5_digest_149 ?_
                          refine j_ladd C dX5_digest_150 ?_
                          refine j_lstn_1 C dX5_digest_151 rfl ?_
                          refine j_iinc_4 C dX5_digest_152 rfl ?_
                          refine j_goto (tgt := 122) C dX5_digest_155 (by decide) ?_
                          exact ih122 _ _ (by omega) (by rw [hA_s hj.1, ← hh5, h146]) (by omega)
                    exact L122 _ _ _ (by omega) (by rw [← hh4, h113, show (0 : Int).toNat = 0 from rfl]; exact hA_0.symm) (Nat.lt_succ_self _)
              exact L92 _ _ _ (by omega) (by rw [hh2, show i = S 1 by omega, show (0 : Int).toNat = 0 from rfl]; exact hP_0.symm) (Nat.lt_succ_self _)
            · refine j_iconst C dX5_digest_53 ?_
              refine j_ist_4 C dX5_digest_54 rfl ?_
              have L56 : ∀ (fuel : Nat) (h w : Int) (hw : 0 ≤ w ∧ w ≤ 8) (hh3 : h = hA (fun k => ndI (S (5 + k))) (8 * i + w).toNat (hA (fun w => ndI (valS S w)) 11 (114731 + ndI (O 0)))) (hf56 : (8 - w).toNat < fuel), J K 0 0 [prO q v b tb r m o c, rgO r (d 0) z1, dbO d, [(d 1, aJ ((kC K) 0) 49 X1)], [(d 2, aJ ((kC K) 0) 49 F1)], [(d 3, aJ ((kC K) 0) 40 N1)], [(r 1, aJ ((kC K) 0) 2365 f1)], bk (kC K) b S, rmO m, [(m 1, aJ ((kC K) 0) 40 X9)], [(m 2, aJ ((kC K) 0) 7 E9)], [(m 3, aJ ((kC K) 0) 7 D9)], [(m 4, aJ ((kC K) 0) 7 B9)], orO o O] [some (.ref (q)), some (.long (lI h)), none, some (.int (iI i)), some (.int (iI w))] 56 [] := by
                intro fuel
                induction fuel with
                | zero => intro h w hw hh3 hf56; exact absurd hf56 (Nat.not_lt_zero _)
                | succ fuel ih56 =>
                  intro h w hw hh3 hf56
                  refine j_iload C dX5_digest_56 rfl ?_
                  refine j_bipush C dX5_digest_58 (by decide) ?_
                  refine j_icmp_ge (tgt := 84) C dX5_digest_60 (by decide) (by omega) (by omega) (by omega) (by omega) (fun c60 => ?_) (fun c60 => ?_)
                  · refine j_iinc_3 C dX5_digest_84 rfl ?_
                    refine j_goto (tgt := 42) C dX5_digest_87 (by decide) ?_
                    exact j_lle (lv' := [_, _, none, _, none]) ⟨Or.inr rfl, ⟨Or.inr rfl, ⟨Or.inl rfl, ⟨Or.inr rfl, ⟨Or.inl rfl, trivial⟩⟩⟩⟩⟩ (ih42 _ _ (by omega) (by rw [hh3, show w = 8 by omega, show 8 * (i + 1) = 8 * i + 8 by omega]) (by omega))
                  · refine j_ldc2 C 31 (by decide) wN_X5_269 dX5_digest_63 ?_
                    refine j_lload_n C dX5_digest_66 rfl ?_
                    refine j_lmul C dX5_digest_67 ?_
                    refine j_aload_n C dX5_digest_68 rfl ?_
                    refine j_iload_n C dX5_digest_69 rfl ?_
                    refine j_iload C dX5_digest_70 rfl ?_
                    refine j_perm (pm_14_0_7 _ _ _ _ _ _ _ _ _ _ _ _ _ _) ?_
                    refine j_callVi C (As := [.int (iI _), .int (iI _)]) (c_X5_promiseOf _ _ _ _ _ _ _ _ _ _ (d) _ _ _ _ (by first | assumption | omega) (by first | assumption | omega) (by first | assumption | omega)) 2 nf_X5_promiseOf (jb := 0) rfl rfl wL_X5_274 wI_X5_promiseOf wSe_X5_X5_promiseOf wIn_X5 wC_X5_promiseOf rfl rfl (by decide) dX5_digest_72 (Nat.le_of_ble_eq_true rfl) ⟨Nat.le_of_ble_eq_true rfl, Nat.le_of_ble_eq_true rfl⟩ (fun x72 u72 h72 => ?_)
                    refine j_perm (pr_14_0_7 _ _ _ _ _ _ _ _ _ _ _ _ _ _) ?_
                    refine j_i2lN C dX5_digest_75 ?_
                    refine j_ladd C dX5_digest_76 ?_
                    refine j_lstn_1 C dX5_digest_77 rfl ?_
                    refine j_iinc_4 C dX5_digest_78 rfl ?_
                    refine j_goto (tgt := 56) C dX5_digest_81 (by decide) ?_
                    exact ih56 _ _ (by omega) (by rw [show 8 * i + (w + 1) = 8 * i + w + 1 by omega, hA_s (by omega), ← hh3, h72, show 5 + (8 * i + w) = 5 + 8 * i + w by omega]) (by omega)
              exact L56 _ _ _ (by omega) (by rw [hh2, show 8 * i + 0 = 8 * i by omega]) (Nat.lt_succ_self _)
        exact L42 _ _ _ (by omega) (by rw [hh, show k = 11 by omega, show (8 * (0 : Int)).toNat = 0 from rfl, show (11 : Int).toNat = 11 from rfl]; exact hA_0.symm) (Nat.lt_succ_self _)
      · refine j_ldc2 C 31 (by decide) wN_X5_269 dX5_digest_21 ?_
        refine j_lload_n C dX5_digest_24 rfl ?_
        refine j_lmul C dX5_digest_25 ?_
        refine j_aload_n C dX5_digest_26 rfl ?_
        refine j_iload_n C dX5_digest_27 rfl ?_
        refine j_perm (pm_14_0_1_2_3_4_5_6_7 _ _ _ _ _ _ _ _ _ _ _ _ _ _) ?_
        refine j_callVi C (As := [.int (iI _)]) (c_X5_value _ _ _ _ _ _ _ _ _ _ (d) _ _ _ _ _ _ _ _ (by first | assumption | omega) (by first | assumption | omega)) 1 nf_X5_value (jb := 0) rfl rfl wL_X5_271 wI_X5_value wSe_X5_X5_value wIn_X5 wC_X5_value rfl rfl (by decide) dX5_digest_28 (Nat.le_of_ble_eq_true rfl) ⟨Nat.le_of_ble_eq_true rfl, Nat.le_of_ble_eq_true rfl⟩ (fun x28 u28 h28 => ?_)
        refine j_perm (pr_14_0_1_2_3_4_5_6_7 _ _ _ _ _ _ _ _ _ _ _ _ _ _) ?_
        refine j_i2lN C dX5_digest_31 ?_
        refine j_ladd C dX5_digest_32 ?_
        refine j_lstn_1 C dX5_digest_33 rfl ?_
        refine j_iinc_3 C dX5_digest_34 rfl ?_
        refine j_goto (tgt := 15) C dX5_digest_37 (by decide) ?_
        exact ih15 _ _ _ _ _ _ _ (by omega) (by rw [hA_s hk.1, ← hh, h28]) (by omega)
  exact L15 _ _ _ _ _ _ _ _ (by omega) (by rw [show (0 : Int).toNat = 0 from rfl]; exact hA_0.symm) (Nat.lt_succ_self _)
