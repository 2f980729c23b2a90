/-! the reference: the orders of the text; how it is made -/
theorem ordN_2 (t : Int → Int) (n a : Int) : a + 2 ≤ ordN t n a := by
  have h1 := fK_bd t n 4 (a + 4)
  have h2 := fK_bd t n 2 (a + 1)
  unfold ordN
  split
  · omega
  · split <;> omega
/-- where the order k begins -/
def psT (t : Int → Int) (n : Int) : Nat → Int
  | 0 => 0
  | m + 1 => ordN t n (psT t n m)
theorem psT_s {t : Int → Int} {n k : Int} (h : 0 ≤ k) : psT t n (k + 1).toNat = ordN t n (psT t n k.toNat) := by
  rw [show (k + 1).toNat = k.toNat + 1 by omega, psT]
theorem syn_s {t : Int → Int} {n a : Int} {f : Nat} (hf : 0 < f) (ha : a < n) : syn t n f a = if ordE t n a = -1 then syn t n (f - 1) (ordN t n a) else ordE t n a := by
  obtain ⟨g, rfl⟩ : ∃ g, f = g + 1 := ⟨f - 1, by omega⟩
  rw [syn, if_neg (by omega)]
  rfl
theorem syn_e {t : Int → Int} {n a : Int} {f : Nat} (ha : n ≤ a) : syn t n f a = -1 := by
  cases f with
  | zero => rfl
  | succ f => rw [syn, if_pos ha]
theorem run_s {t : Int → Int} {n a k : Int} {S : Int → Int} {f : Nat} (hf : 0 < f) (h : ¬ (n ≤ a ∨ ordE t n a ≠ -1)) : run t n f a S k = if (exT t n a S).1 = 0 then (k, (exT t n a S).2) else run t n (f - 1) (ordN t n a) (exT t n a S).2 (k + 1) := by
  obtain ⟨g, rfl⟩ : ∃ g, f = g + 1 := ⟨f - 1, by omega⟩
  rw [run, if_neg h]
  rfl
/-- an order that was read, with its fields -/
def RDk (t : Int → Int) (n : Int) (W F Q A R : Int → Int) (k : Int) : Prop := ordE t n (psT t n k.toNat) = -1 ∧ psT t n k.toNat < n ∧ W k = pk t n (psT t n k.toNat) ∧ FLD t n (psT t n k.toNat) F Q A R k
theorem RDk_ok {t : Int → Int} {n : Int} {W F Q A R : Int → Int} {k : Int} (h : RDk t n W F Q A R k) : OKf W F Q A R k := by
  obtain ⟨-, -, h3, h4, h5, h6⟩ := h
  unfold OKf
  rw [h3]
  exact ⟨fun q => by have := h4 q; omega, fun q => by have := h5 q; omega, h6⟩
theorem RDk_ex {t : Int → Int} {n : Int} {W F Q A R S : Int → Int} {k : Int} (h : RDk t n W F Q A R k) : exO S (W k) (F k) (Q k) (A k) (R k) (F k) = exT t n (psT t n k.toNat) S := by
  obtain ⟨-, -, h3, h4, h5, h6⟩ := h
  unfold exT
  rw [h3]
  exact exO_congr (fun q => by have := h4 q; exact ⟨this.1.1, this.2.1.1, this.2.2.1.1, this.2.2.2.1⟩) (fun q => (h5 q).1)
theorem RDk_cg {t : Int → Int} {n : Int} {W F Q A R W' F' Q' A' R' : Int → Int} {k : Int} (h : RDk t n W F Q A R k) (e : W' k = W k ∧ F' k = F k ∧ Q' k = Q k ∧ A' k = A k ∧ R' k = R k) : RDk t n W' F' Q' A' R' k := by
  unfold RDk FLD at h ⊢
  rw [e.1, e.2.1, e.2.2.1, e.2.2.2.1, e.2.2.2.2]
  exact h
/-- how far the text was read -/
def RST (t : Int → Int) (n : Int) (G W F Q A R : Int → Int) : Prop := (G 9 = -1 ∧ (0 ≤ G 11 ∧ G 11 ≤ 50) ∧ G 8 = psT t n (G 11).toNat ∧ (2 * G 11 ≤ G 8 ∧ G 8 ≤ n) ∧ syn t n 100 0 = syn t n (100 - (G 11).toNat) (psT t n (G 11).toNat) ∧ ∀ k : Int, 0 ≤ k → k < G 11 → RDk t n W F Q A R k) ∨ (G 9 ≠ -1 ∧ syn t n 100 0 = G 9)
theorem RST_nx {t G W F Q A R u W' F' Q' A' R' : Int → Int} {n : Int} (hn : G 1 = n ∧ n ≤ 100) (h : RST t n G W F Q A R) (h9 : G 9 = -1) (h8 : G 8 < n) (hk : ∀ j : Int, j ≠ G 11 → W' j = W j ∧ F' j = F j ∧ Q' j = Q j ∧ A' j = A j ∧ R' j = R j)
    (hu : (ordE t (G 1) (G 8) = -1 ∧ u 9 = -1 ∧ (u 8 = ordN t (G 1) (G 8) ∧ u 8 ≤ G 1) ∧ u 11 = G 11 + 1 ∧ W' (G 11) = pk t (G 1) (G 8) ∧ FLD t (G 1) (G 8) F' Q' A' R' (G 11)) ∨ (ordE t (G 1) (G 8) ≠ -1 ∧ u 9 = ordE t (G 1) (G 8))) : RST t n u W' F' Q' A' R' ∧ (u 9 = -1 → G 8 + 2 ≤ u 8) := by
  rcases h with h | h
  · obtain ⟨-, hm, h2, h3, h4, h5⟩ := h
    rw [hn.1, h2] at hu
    have hs := syn_s (t := t) (n := n) (a := psT t n (G 11).toNat) (f := 100 - (G 11).toNat) (by omega) (by omega)
    rcases hu with ⟨e1, e2, e3, e4, e5, e6⟩ | ⟨e1, e2⟩
    · have hN := ordN_2 t n (psT t n (G 11).toNat)
      refine ⟨Or.inl ⟨e2, by omega, ?_, by omega, ?_, fun k k0 k1 => ?_⟩, fun _ => by omega⟩
      · rw [e4, psT_s hm.1]; exact e3.1
      · rw [h4, hs, if_pos e1, e4, psT_s hm.1, show 100 - (G 11).toNat - 1 = 100 - (G 11 + 1).toNat by omega]
      · by_cases c : k = G 11
        · rw [c]
          exact ⟨e1, by omega, e5, e6⟩
        · exact RDk_cg (h5 k k0 (by omega)) (hk k c)
    · have hE := (ordE_bd t n (psT t n (G 11).toNat) (by omega)).1
      refine ⟨Or.inr ⟨by omega, ?_⟩, fun q => by omega⟩
      rw [h4, hs, if_neg e1, e2]
  · exact absurd h9 h.1
theorem pm_14_0 (B0 B1 B2 B3 B4 B5 B6 B7 B8 B9 B10 B11 B12 B13 : va_W) : [B0, B1, B2, B3, B4, B5, B6, B7, B8, B9, B10, B11, B12, B13].Perm ([B0] ++ [B1, B2, B3, B4, B5, B6, B7, B8, B9, B10, B11, B12, B13]) := List.Perm.refl _
theorem pr_14_0 (B0 B1 B2 B3 B4 B5 B6 B7 B8 B9 B10 B11 B12 B13 : va_W) : ([B0] ++ [B1, B2, B3, B4, B5, B6, B7, B8, B9, B10, B11, B12, B13]).Perm [B0, B1, B2, B3, B4, B5, B6, B7, B8, B9, B10, B11, B12, B13] := (pm_14_0 B0 B1 B2 B3 B4 B5 B6 B7 B8 B9 B10 B11 B12 B13).symm
theorem pm_14_0_1_2 (B0 B1 B2 B3 B4 B5 B6 B7 B8 B9 B10 B11 B12 B13 : va_W) : [B0, B1, B2, B3, B4, B5, B6, B7, B8, B9, B10, B11, B12, B13].Perm ([B0, B1, B2] ++ [B3, B4, B5, B6, B7, B8, B9, B10, B11, B12, B13]) := List.Perm.trans (List.Perm.refl _) (List.Perm.trans (List.Perm.cons _ (List.Perm.refl _)) (List.Perm.cons _ (List.Perm.cons _ (List.Perm.refl _))))
theorem pr_14_0_1_2 (B0 B1 B2 B3 B4 B5 B6 B7 B8 B9 B10 B11 B12 B13 : va_W) : ([B0, B1, B2] ++ [B3, B4, B5, B6, B7, B8, B9, B10, B11, B12, B13]).Perm [B0, B1, B2, B3, B4, B5, B6, B7, B8, B9, B10, B11, B12, B13] := (pm_14_0_1_2 B0 B1 B2 B3 B4 B5 B6 B7 B8 B9 B10 B11 B12 B13).symm
theorem pm_14_0_1_4_5_6_7_8_9_10_11 (B0 B1 B2 B3 B4 B5 B6 B7 B8 B9 B10 B11 B12 B13 : va_W) : [B0, B1, B2, B3, B4, B5, B6, B7, B8, B9, B10, B11, B12, B13].Perm ([B0, B1, B4, B5, B6, B7, B8, B9, B10, B11] ++ [B2, B3, B12, B13]) := List.Perm.trans (List.Perm.refl _) (List.Perm.trans (List.Perm.cons _ (List.Perm.refl _)) (List.Perm.trans (List.Perm.cons _ (List.Perm.cons _ (List.perm_middle (l₁ := [B2, B3]) (a := B4) (l₂ := [B5, B6, B7, B8, B9, B10, B11, B12, B13])))) (List.Perm.trans (List.Perm.cons _ (List.Perm.cons _ (List.Perm.cons _ (List.perm_middle (l₁ := [B2, B3]) (a := B5) (l₂ := [B6, B7, B8, B9, B10, B11, B12, B13]))))) (List.Perm.trans (List.Perm.cons _ (List.Perm.cons _ (List.Perm.cons _ (List.Perm.cons _ (List.perm_middle (l₁ := [B2, B3]) (a := B6) (l₂ := [B7, B8, B9, B10, B11, B12, B13])))))) (List.Perm.trans (List.Perm.cons _ (List.Perm.cons _ (List.Perm.cons _ (List.Perm.cons _ (List.Perm.cons _ (List.perm_middle (l₁ := [B2, B3]) (a := B7) (l₂ := [B8, B9, B10, B11, B12, B13]))))))) (List.Perm.trans (List.Perm.cons _ (List.Perm.cons _ (List.Perm.cons _ (List.Perm.cons _ (List.Perm.cons _ (List.Perm.cons _ (List.perm_middle (l₁ := [B2, B3]) (a := B8) (l₂ := [B9, B10, B11, B12, B13])))))))) (List.Perm.trans (List.Perm.cons _ (List.Perm.cons _ (List.Perm.cons _ (List.Perm.cons _ (List.Perm.cons _ (List.Perm.cons _ (List.Perm.cons _ (List.perm_middle (l₁ := [B2, B3]) (a := B9) (l₂ := [B10, B11, B12, B13]))))))))) (List.Perm.trans (List.Perm.cons _ (List.Perm.cons _ (List.Perm.cons _ (List.Perm.cons _ (List.Perm.cons _ (List.Perm.cons _ (List.Perm.cons _ (List.Perm.cons _ (List.perm_middle (l₁ := [B2, B3]) (a := B10) (l₂ := [B11, B12, B13])))))))))) (List.Perm.cons _ (List.Perm.cons _ (List.Perm.cons _ (List.Perm.cons _ (List.Perm.cons _ (List.Perm.cons _ (List.Perm.cons _ (List.Perm.cons _ (List.Perm.cons _ (List.perm_middle (l₁ := [B2, B3]) (a := B11) (l₂ := [B12, B13])))))))))))))))))))
theorem pr_14_0_1_4_5_6_7_8_9_10_11 (B0 B1 B2 B3 B4 B5 B6 B7 B8 B9 B10 B11 B12 B13 : va_W) : ([B0, B1, B4, B5, B6, B7, B8, B9, B10, B11] ++ [B2, B3, B12, B13]).Perm [B0, B1, B2, B3, B4, B5, B6, B7, B8, B9, B10, B11, B12, B13] := (pm_14_0_1_4_5_6_7_8_9_10_11 B0 B1 B2 B3 B4 B5 B6 B7 B8 B9 B10 B11 B12 B13).symm
theorem pm_14_0_1_4_5_6_7_8_9_10_11_12_13 (B0 B1 B2 B3 B4 B5 B6 B7 B8 B9 B10 B11 B12 B13 : va_W) : [B0, B1, B2, B3, B4, B5, B6, B7, B8, B9, B10, B11, B12, B13].Perm ([B0, B1, B4, B5, B6, B7, B8, B9, B10, B11, B12, B13] ++ [B2, B3]) := List.Perm.trans (List.Perm.refl _) (List.Perm.trans (List.Perm.cons _ (List.Perm.refl _)) (List.Perm.trans (List.Perm.cons _ (List.Perm.cons _ (List.perm_middle (l₁ := [B2, B3]) (a := B4) (l₂ := [B5, B6, B7, B8, B9, B10, B11, B12, B13])))) (List.Perm.trans (List.Perm.cons _ (List.Perm.cons _ (List.Perm.cons _ (List.perm_middle (l₁ := [B2, B3]) (a := B5) (l₂ := [B6, B7, B8, B9, B10, B11, B12, B13]))))) (List.Perm.trans (List.Perm.cons _ (List.Perm.cons _ (List.Perm.cons _ (List.Perm.cons _ (List.perm_middle (l₁ := [B2, B3]) (a := B6) (l₂ := [B7, B8, B9, B10, B11, B12, B13])))))) (List.Perm.trans (List.Perm.cons _ (List.Perm.cons _ (List.Perm.cons _ (List.Perm.cons _ (List.Perm.cons _ (List.perm_middle (l₁ := [B2, B3]) (a := B7) (l₂ := [B8, B9, B10, B11, B12, B13]))))))) (List.Perm.trans (List.Perm.cons _ (List.Perm.cons _ (List.Perm.cons _ (List.Perm.cons _ (List.Perm.cons _ (List.Perm.cons _ (List.perm_middle (l₁ := [B2, B3]) (a := B8) (l₂ := [B9, B10, B11, B12, B13])))))))) (List.Perm.trans (List.Perm.cons _ (List.Perm.cons _ (List.Perm.cons _ (List.Perm.cons _ (List.Perm.cons _ (List.Perm.cons _ (List.Perm.cons _ (List.perm_middle (l₁ := [B2, B3]) (a := B9) (l₂ := [B10, B11, B12, B13]))))))))) (List.Perm.trans (List.Perm.cons _ (List.Perm.cons _ (List.Perm.cons _ (List.Perm.cons _ (List.Perm.cons _ (List.Perm.cons _ (List.Perm.cons _ (List.Perm.cons _ (List.perm_middle (l₁ := [B2, B3]) (a := B10) (l₂ := [B11, B12, B13])))))))))) (List.Perm.trans (List.Perm.cons _ (List.Perm.cons _ (List.Perm.cons _ (List.Perm.cons _ (List.Perm.cons _ (List.Perm.cons _ (List.Perm.cons _ (List.Perm.cons _ (List.Perm.cons _ (List.perm_middle (l₁ := [B2, B3]) (a := B11) (l₂ := [B12, B13]))))))))))) (List.Perm.trans (List.Perm.cons _ (List.Perm.cons _ (List.Perm.cons _ (List.Perm.cons _ (List.Perm.cons _ (List.Perm.cons _ (List.Perm.cons _ (List.Perm.cons _ (List.Perm.cons _ (List.Perm.cons _ (List.perm_middle (l₁ := [B2, B3]) (a := B12) (l₂ := [B13])))))))))))) (List.Perm.cons _ (List.Perm.cons _ (List.Perm.cons _ (List.Perm.cons _ (List.Perm.cons _ (List.Perm.cons _ (List.Perm.cons _ (List.Perm.cons _ (List.Perm.cons _ (List.Perm.cons _ (List.Perm.cons _ (List.perm_middle (l₁ := [B2, B3]) (a := B13) (l₂ := [])))))))))))))))))))))))
theorem pr_14_0_1_4_5_6_7_8_9_10_11_12_13 (B0 B1 B2 B3 B4 B5 B6 B7 B8 B9 B10 B11 B12 B13 : va_W) : ([B0, B1, B4, B5, B6, B7, B8, B9, B10, B11, B12, B13] ++ [B2, B3]).Perm [B0, B1, B2, B3, B4, B5, B6, B7, B8, B9, B10, B11, B12, B13] := (pm_14_0_1_4_5_6_7_8_9_10_11_12_13 B0 B1 B2 B3 B4 B5 B6 B7 B8 B9 B10 B11 B12 B13).symm
theorem pm_14_0_3_9_10_11_12_13 (B0 B1 B2 B3 B4 B5 B6 B7 B8 B9 B10 B11 B12 B13 : va_W) : [B0, B1, B2, B3, B4, B5, B6, B7, B8, B9, B10, B11, B12, B13].Perm ([B0, B3, B9, B10, B11, B12, B13] ++ [B1, B2, B4, B5, B6, B7, B8]) := List.Perm.trans (List.Perm.refl _) (List.Perm.trans (List.Perm.cons _ (List.perm_middle (l₁ := [B1, B2]) (a := B3) (l₂ := [B4, B5, B6, B7, B8, B9, B10, B11, B12, B13]))) (List.Perm.trans (List.Perm.cons _ (List.Perm.cons _ (List.perm_middle (l₁ := [B1, B2, B4, B5, B6, B7, B8]) (a := B9) (l₂ := [B10, B11, B12, B13])))) (List.Perm.trans (List.Perm.cons _ (List.Perm.cons _ (List.Perm.cons _ (List.perm_middle (l₁ := [B1, B2, B4, B5, B6, B7, B8]) (a := B10) (l₂ := [B11, B12, B13]))))) (List.Perm.trans (List.Perm.cons _ (List.Perm.cons _ (List.Perm.cons _ (List.Perm.cons _ (List.perm_middle (l₁ := [B1, B2, B4, B5, B6, B7, B8]) (a := B11) (l₂ := [B12, B13])))))) (List.Perm.trans (List.Perm.cons _ (List.Perm.cons _ (List.Perm.cons _ (List.Perm.cons _ (List.Perm.cons _ (List.perm_middle (l₁ := [B1, B2, B4, B5, B6, B7, B8]) (a := B12) (l₂ := [B13]))))))) (List.Perm.cons _ (List.Perm.cons _ (List.Perm.cons _ (List.Perm.cons _ (List.Perm.cons _ (List.Perm.cons _ (List.perm_middle (l₁ := [B1, B2, B4, B5, B6, B7, B8]) (a := B13) (l₂ := [])))))))))))))
theorem pr_14_0_3_9_10_11_12_13 (B0 B1 B2 B3 B4 B5 B6 B7 B8 B9 B10 B11 B12 B13 : va_W) : ([B0, B3, B9, B10, B11, B12, B13] ++ [B1, B2, B4, B5, B6, B7, B8]).Perm [B0, B1, B2, B3, B4, B5, B6, B7, B8, B9, B10, B11, B12, B13] := (pm_14_0_3_9_10_11_12_13 B0 B1 B2 B3 B4 B5 B6 B7 B8 B9 B10 B11 B12 B13).symm
set_option maxHeartbeats 800000 in
set_option maxRecDepth 100000 in
theorem c_X6_carryOut (l : Launch) (D : va_G) (cA : Nat → ClassId) (a : Nat → Nat) (G M V t R1 N1 D1 B1 BR W F Q A T S : Int → Int) (hI : Inv S) (hA : Ag S M) (hc : 0 ≤ G 0 ∧ G 0 ≤ 4) (hb : TX t (G 1)) : MI (U := (Int → Int) × (Int → Int) × (Int → Int) × (Int → Int) × (Int → Int) × (Int → Int) × (Int → Int) × (Int → Int) × (Int → Int) × (Int → Int) × (Int → Int) × (Int → Int) × (Int → Int)) l yX6_carryOut cX6_carryOut 2 (some .int) (rmN 9 0 0) D cA [.ref (a 0)] [mO a G, [(a 1, aJ (cA 0) 325 M)], [(a 3, aJ (cA 0) 1300 V)], [(a 4, aJ (cA 0) 100 t)], [(a 7, aJ (cA 0) 8 R1)], [(a 8, aJ (cA 0) 9 N1)], [(a 5, aJ (cA 0) 49 D1)], [(a 6, aJ (cA 0) 490 B1)], [(a 9, aJ (cA 0) 8 BR)], [(a 14, aJ (cA 0) 50 W)], [(a 15, aJ (cA 0) 50 F)], [(a 16, aJ (cA 0) 50 Q)], [(a 17, aJ (cA 0) 50 A)], [(a 18, aJ (cA 0) 50 T)]] (fun z u => z = (cRes t (G 1) S).1 ∧ Ag (cRes t (G 1) S).2 u.2.1 ∧ ((syn t (G 1) 100 0 ≠ -1 ∧ (u.2.1 = M ∧ u.2.2.1 = V) ∧ RU G u.1 0) ∨ (syn t (G 1) 100 0 = -1 ∧ RV2 G M V u.1 u.2.2.1))) (fun u => [mO a u.1, [(a 1, aJ (cA 0) 325 u.2.1)], [(a 3, aJ (cA 0) 1300 u.2.2.1)], [(a 4, aJ (cA 0) 100 t)], [(a 7, aJ (cA 0) 8 u.2.2.2.1)], [(a 8, aJ (cA 0) 9 u.2.2.2.2.1)], [(a 5, aJ (cA 0) 49 u.2.2.2.2.2.1)], [(a 6, aJ (cA 0) 490 u.2.2.2.2.2.2.1)], [(a 9, aJ (cA 0) 8 u.2.2.2.2.2.2.2.1)], [(a 14, aJ (cA 0) 50 u.2.2.2.2.2.2.2.2.1)], [(a 15, aJ (cA 0) 50 u.2.2.2.2.2.2.2.2.2.1)], [(a 16, aJ (cA 0) 50 u.2.2.2.2.2.2.2.2.2.2.1)], [(a 17, aJ (cA 0) 50 u.2.2.2.2.2.2.2.2.2.2.2.1)], [(a 18, aJ (cA 0) 50 u.2.2.2.2.2.2.2.2.2.2.2.2)]]) := by
  refine m_startI pn_X6 rfl (List.forall_mem_cons.mpr ⟨rfl, fun _ h => absurd h List.not_mem_nil⟩) (Nat.le_of_ble_eq_true rfl) ?_
  intro K C e1 e2 e3 hin hR
  subst e1 e2 e3
  have hN := hI.2.1
  have hQ := hI.1
  have hM := Ag_h hA hN.1
  have hM0 := hM.1
  have hM1 := hM.2.1
  have hb1 := hb.1
  have hsb := syn_bd hb 100 0 (Int.le_refl _)
  show J K 0 0 [mO a G, [(a 1, aJ ((kC K) 0) 325 M)], [(a 3, aJ ((kC K) 0) 1300 V)], [(a 4, aJ ((kC K) 0) 100 t)], [(a 7, aJ ((kC K) 0) 8 R1)], [(a 8, aJ ((kC K) 0) 9 N1)], [(a 5, aJ ((kC K) 0) 49 D1)], [(a 6, aJ ((kC K) 0) 490 B1)], [(a 9, aJ ((kC K) 0) 8 BR)], [(a 14, aJ ((kC K) 0) 50 W)], [(a 15, aJ ((kC K) 0) 50 F)], [(a 16, aJ ((kC K) 0) 50 Q)], [(a 17, aJ ((kC K) 0) 50 A)], [(a 18, aJ ((kC K) 0) 50 T)]] [some (.ref (a 0)), none] 0 []
  refine j_aload_n C dX6_carryOut_0 rfl ?_
  refine j_iconst C dX6_carryOut_1 ?_
  refine j_iconst C dX6_carryOut_2 ?_
  refine j_iconst C dX6_carryOut_3 ?_
  refine j_perm (pm_14_0 _ _ _ _ _ _ _ _ _ _ _ _ _ _) ?_
  refine j_callVi C (As := [.int (iI _), .int (iI _), .int (iI _)]) (c_X6_goes _ _ _ _ _ _ _ _ (by first | assumption | omega) (by first | assumption | omega) (by first | assumption | omega)) 3 nf_X6_goes (jb := 0) rfl rfl wL_X6_146 wI_X6_goes wSe_X6_X6_goes wIn_X6 wC_X6_goes rfl rfl (by decide) dX6_carryOut_4 (Nat.le_of_ble_eq_true rfl) ⟨Nat.le_of_ble_eq_true rfl, Nat.le_of_ble_eq_true rfl⟩ (fun x4 u4 h4 => ?_)
  refine j_perm (pr_14_0 _ _ _ _ _ _ _ _ _ _ _ _ _ _) ?_
  have q4 := goes3 h4
  refine j_pop C dX6_carryOut_7 rfl ?_
  refine j_aload_n C dX6_carryOut_8 rfl ?_
  refine j_iconst C dX6_carryOut_9 ?_
  refine j_put_p0 C 0 21 rfl mO_put8 rfl wU_X6 tyX6_ok nmX6 (by decide) wF_X6_210 rfl rfl rfl (Nat.le_of_ble_eq_true rfl) dX6_carryOut_10 ?_
  refine j_aload_n C dX6_carryOut_13 rfl ?_
  refine j_iconst C dX6_carryOut_14 ?_
  refine j_put_p0 C 0 22 rfl mO_put9 rfl wU_X6 tyX6_ok nmX6 (by decide) wF_X6_213 rfl rfl rfl (Nat.le_of_ble_eq_true rfl) dX6_carryOut_15 ?_
  refine j_aload_n C dX6_carryOut_18 rfl ?_
  refine j_iconst C dX6_carryOut_19 ?_
  refine j_put_p0 C 0 24 rfl mO_put11 rfl wU_X6 tyX6_ok nmX6 (by decide) wF_X6_229 rfl rfl rfl (Nat.le_of_ble_eq_true rfl) dX6_carryOut_20 ?_
  have L23 : ∀ (fuel : Nat) (G2 W2 F2 Q2 A2 T2 : Int → Int) (m : Nat) (h012 : G2 0 = G 0 ∧ G2 1 = G 1 ∧ G2 2 = 0) (hR2 : RST t (G 1) G2 W2 F2 Q2 A2 T2) (h29 : -1 ≤ G2 9 ∧ G2 9 ≤ 1000) (hm : G2 9 = -1 → (G 1 - G2 8).toNat + 1 ≤ m) (hf23 : m < fuel), J K 0 0 [mO a G2, [(a 1, aJ ((kC K) 0) 325 M)], [(a 3, aJ ((kC K) 0) 1300 V)], [(a 4, aJ ((kC K) 0) 100 t)], [(a 7, aJ ((kC K) 0) 8 R1)], [(a 8, aJ ((kC K) 0) 9 N1)], [(a 5, aJ ((kC K) 0) 49 D1)], [(a 6, aJ ((kC K) 0) 490 B1)], [(a 9, aJ ((kC K) 0) 8 BR)], [(a 14, aJ ((kC K) 0) 50 W2)], [(a 15, aJ ((kC K) 0) 50 F2)], [(a 16, aJ ((kC K) 0) 50 Q2)], [(a 17, aJ ((kC K) 0) 50 A2)], [(a 18, aJ ((kC K) 0) 50 T2)]] [some (.ref (a 0)), none] 23 [] := by
    intro fuel
    induction fuel with
    | zero => intro G2 W2 F2 Q2 A2 T2 m h012 hR2 h29 hm hf23; exact absurd hf23 (Nat.not_lt_zero _)
    | succ fuel ih23 =>
      intro G2 W2 F2 Q2 A2 T2 m h012 hR2 h29 hm hf23
      have h28 : G2 9 = -1 → 0 ≤ G2 8 ∧ 2 * G2 11 ≤ G2 8 ∧ G2 8 ≤ G 1 ∧ 0 ≤ G2 11 ∧ G2 11 ≤ 50 := fun q => by
        rcases hR2 with z | z
        · have := z.2.2.2.1
          have := z.2.1
          omega
        · exact absurd q z.1
      have h28b : -1000 ≤ G2 8 ∧ G2 8 ≤ 1000 ∨ G2 9 ≠ -1 := by
        by_cases z : G2 9 = -1
        · left; have := h28 z; omega
        · exact Or.inr z
      refine j_aload_n C dX6_carryOut_23 rfl ?_
      refine j_get C 0 0 22 rfl rfl rfl wU_X6 (by decide) wF_X6_213 rfl dX6_carryOut_24 ?_
      refine j_iconst C dX6_carryOut_27 ?_
      refine j_icmp_ne (tgt := 49) C dX6_carryOut_28 (by decide) (by omega) (by omega) (by omega) (by omega) (fun c28 => ?_) (fun c28 => ?_)
      · have hRcase := hR2
        refine j_aload_n C dX6_carryOut_49 rfl ?_
        refine j_get C 0 0 22 rfl rfl rfl wU_X6 (by decide) wF_X6_213 rfl dX6_carryOut_50 ?_
        refine j_iconst C dX6_carryOut_53 ?_
        refine j_icmp_eq (tgt := 65) C dX6_carryOut_54 (by decide) (by omega) (by omega) (by omega) (by omega) (fun c54 => ?_) (fun c54 => ?_)
        · have hRD : G2 8 = psT t (G 1) (G2 11).toNat ∧ (2 * G2 11 ≤ G2 8 ∧ G2 8 ≤ G 1) ∧ syn t (G 1) 100 0 = syn t (G 1) (100 - (G2 11).toNat) (psT t (G 1) (G2 11).toNat) ∧ ∀ k : Int, 0 ≤ k → k < G2 11 → RDk t (G 1) W2 F2 Q2 A2 T2 k := by
            rcases hRcase with z | z
            · exact z.2.2
            · exact absurd (by omega) z.1
          have hm2 := h28 (by omega)
          have hend : G 1 ≤ psT t (G 1) (G2 11).toNat := by omega
          have hsyn : syn t (G 1) 100 0 = -1 := by rw [hRD.2.2.1, syn_e hend]
          refine j_aload_n C dX6_carryOut_65 rfl ?_
          refine j_perm (pm_14_0_1_2 _ _ _ _ _ _ _ _ _ _ _ _ _ _) ?_
          refine j_callVv C (As := []) (c_X6_saves _ _ _ _ _ _ _ (by rw [h012.1]; exact hc)) 0 nf_X6_saves (jb := 0) rfl rfl wL_X6_150 wI_X6_saves wSe_X6_X6_saves wIn_X6 wC_X6_saves rfl rfl (by decide) dX6_carryOut_66 (Nat.le_of_ble_eq_true rfl) ⟨Nat.le_of_ble_eq_true rfl, Nat.le_of_ble_eq_true rfl⟩ (fun u66 h66 => ?_)
          refine j_perm (pr_14_0_1_2 _ _ _ _ _ _ _ _ _ _ _ _ _ _) ?_
          have hRV0 := RV2_of (G := G) (Ga := G2) ⟨h012.1, h012.2.1, h012.2.2⟩ h66
          refine j_iconst C dX6_carryOut_69 ?_
          refine j_istn_1 C dX6_carryOut_70 rfl ?_
          have L71 : ∀ (fuel : Nat) (k : Int) (T3 G3 M3 R3 N3 D3 B3 BR3 : Int → Int) (hk : 0 ≤ k ∧ k ≤ G2 11) (hIT : Inv T3) (hAT : Ag T3 M3) (hRV : RV2 G M V G3 u66) (h311 : G3 11 = G2 11) (hrun : run t (G 1) (100 - k.toNat) (psT t (G 1) k.toNat) T3 k = run t (G 1) 100 0 S 0) (hf71 : (G2 11 - k).toNat < fuel), J K 0 0 [mO a G3, [(a 1, aJ ((kC K) 0) 325 M3)], [(a 3, aJ ((kC K) 0) 1300 u66)], [(a 4, aJ ((kC K) 0) 100 t)], [(a 7, aJ ((kC K) 0) 8 R3)], [(a 8, aJ ((kC K) 0) 9 N3)], [(a 5, aJ ((kC K) 0) 49 D3)], [(a 6, aJ ((kC K) 0) 490 B3)], [(a 9, aJ ((kC K) 0) 8 BR3)], [(a 14, aJ ((kC K) 0) 50 W2)], [(a 15, aJ ((kC K) 0) 50 F2)], [(a 16, aJ ((kC K) 0) 50 Q2)], [(a 17, aJ ((kC K) 0) 50 A2)], [(a 18, aJ ((kC K) 0) 50 T2)]] [some (.ref (a 0)), some (.int (iI k))] 71 [] := by
            intro fuel
            induction fuel with
            | zero => intro k T3 G3 M3 R3 N3 D3 B3 BR3 hk hIT hAT hRV h311 hrun hf71; exact absurd hf71 (Nat.not_lt_zero _)
            | succ fuel ih71 =>
              intro k T3 G3 M3 R3 N3 D3 B3 BR3 hk hIT hAT hRV h311 hrun hf71
              refine j_iload_n C dX6_carryOut_71 rfl ?_
              have L98 : ∀ (G9 R9 N9 D9 B9 BR9 : Int → Int) (hres : k = (run t (G 1) 100 0 S 0).1 ∧ Ag (run t (G 1) 100 0 S 0).2 M3) (hRV9 : RV2 G M V G9 u66), J K 0 0 [mO a G9, [(a 1, aJ ((kC K) 0) 325 M3)], [(a 3, aJ ((kC K) 0) 1300 u66)], [(a 4, aJ ((kC K) 0) 100 t)], [(a 7, aJ ((kC K) 0) 8 R9)], [(a 8, aJ ((kC K) 0) 9 N9)], [(a 5, aJ ((kC K) 0) 49 D9)], [(a 6, aJ ((kC K) 0) 490 B9)], [(a 9, aJ ((kC K) 0) 8 BR9)], [(a 14, aJ ((kC K) 0) 50 W2)], [(a 15, aJ ((kC K) 0) 50 F2)], [(a 16, aJ ((kC K) 0) 50 Q2)], [(a 17, aJ ((kC K) 0) 50 A2)], [(a 18, aJ ((kC K) 0) 50 T2)]] [some (.ref (a 0)), some (.int (iI k))] 98 [] := by
                intro G9 R9 N9 D9 B9 BR9 hres hRV9
                refine j_iload_n C dX6_carryOut_98 rfl ?_
                refine hR (G9, M3, u66, R9, N9, D9, B9, BR9, W2, F2, Q2, A2, T2) dX6_carryOut_99 ?_ rfl (Nat.le_of_ble_eq_true rfl) (Nat.le_of_ble_eq_true rfl)
                refine ⟨?_, ?_, Or.inr ⟨hsyn, hRV9⟩⟩
                · unfold cRes
                  rw [if_neg (by omega)]
                  exact hres.1
                · unfold cRes
                  rw [if_neg (by omega)]
                  exact hres.2
              refine j_aload_n C dX6_carryOut_72 rfl ?_
              refine j_get C 0 0 24 rfl rfl rfl wU_X6 (by decide) wF_X6_229 rfl dX6_carryOut_73 ?_
              refine j_icmp_ge (tgt := 98) C dX6_carryOut_76 (by decide) (by omega) (by omega) (by omega) (by omega) (fun c76 => ?_) (fun c76 => ?_)
              · exact L98 _ _ _ _ _ _ (by rw [← hrun, run_e (Or.inl (by rw [show k.toNat = (G2 11).toNat by omega]; exact hend))]; exact ⟨rfl, hAT⟩) (by exact hRV)
              · have hRk := hRD.2.2.2 k hk.1 (by omega)
                have hok := RDk_ok hRk
                have hEX := RDk_ex (S := T3) hRk
                have hEI := exO_Inv (S := T3) (s := W2 k) (f := F2 k) (e := Q2 k) (x := A2 k) (y := T2 k) (i := F2 k) hIT (fun q => by have := hok.1 q; omega) (fun q => by have := hok.2.1 q; omega)
                rw [hEX] at hEI
                have hrs := run_s (t := t) (n := G 1) (a := psT t (G 1) k.toNat) (k := k) (S := T3) (f := 100 - k.toNat) (by omega) (fun q => by rcases q with q | q; have := hRk.2.1; omega; exact q hRk.1)
                refine j_aload_n C dX6_carryOut_79 rfl ?_
                refine j_iload_n C dX6_carryOut_80 rfl ?_
                refine j_perm (pm_14_0_1_4_5_6_7_8_9_10_11 _ _ _ _ _ _ _ _ _ _ _ _ _ _) ?_
                refine j_callVi C (As := [.int (iI _)]) (c_X6_can _ _ _ _ _ _ _ _ _ _ _ _ _ _ (A2) (T2) (T3) _ (by exact hIT) (by exact hAT) (by exact hok) (by first | assumption | omega)) 1 nf_X6_can (jb := 0) rfl rfl wL_X6_242 wI_X6_can wSe_X6_X6_can wIn_X6 wC_X6_can rfl rfl (by decide) dX6_carryOut_81 (Nat.le_of_ble_eq_true rfl) ⟨Nat.le_of_ble_eq_true rfl, Nat.le_of_ble_eq_true rfl⟩ (fun x81 u81 h81 => ?_)
                refine j_perm (pr_14_0_1_4_5_6_7_8_9_10_11 _ _ _ _ _ _ _ _ _ _ _ _ _ _) ?_
                have hx81b : x81 = 0 ∨ x81 = 1 := by rw [h81.1, hEX]; exact hEI.2
                refine j_if_eq (tgt := 98) C dX6_carryOut_84 (by decide) (by omega) (by omega) (fun c84 => ?_) (fun c84 => ?_)
                · exact L98 _ _ _ _ _ _ (by rw [← hrun, hrs, if_pos (by rw [← hEX, ← h81.1]; exact c84), ← hEX, exO_0 (by rw [← h81.1]; exact c84)]; exact ⟨rfl, hAT⟩) (by exact RV2_KG hRV h81.2.1)
                · have hx1 : ¬ (exT t (G 1) (psT t (G 1) k.toNat) T3).1 = 0 := by rw [← hEX, ← h81.1]; exact c84
                  refine j_aload_n C dX6_carryOut_87 rfl ?_
                  refine j_iload_n C dX6_carryOut_88 rfl ?_
                  refine j_perm (pm_14_0_1_4_5_6_7_8_9_10_11_12_13 _ _ _ _ _ _ _ _ _ _ _ _ _ _) ?_
                  refine j_callVv C (As := [.int (iI _)]) (c_X6_does _ _ _ _ _ _ _ _ _ _ _ _ _ _ _ _ (T3) _ (by exact hIT) (by exact hAT) (by exact hok) (by first | assumption | omega) (by have := h81.1; rcases hEI.2 with z | z; (exact absurd z hx1); (rw [hEX]; exact z)) (by exact h81.2.2)) 1 nf_X6_does (jb := 0) rfl rfl wL_X6_245 wI_X6_does wSe_X6_X6_does wIn_X6 wC_X6_does rfl rfl (by decide) dX6_carryOut_89 (Nat.le_of_ble_eq_true rfl) ⟨Nat.le_of_ble_eq_true rfl, Nat.le_of_ble_eq_true rfl⟩ (fun u89 h89 => ?_)
                  refine j_perm (pr_14_0_1_4_5_6_7_8_9_10_11_12_13 _ _ _ _ _ _ _ _ _ _ _ _ _ _) ?_
                  refine j_iinc_1 C dX6_carryOut_92 rfl ?_
                  refine j_goto (tgt := 71) C dX6_carryOut_95 (by decide) ?_
                  exact ih71 _ _ _ _ _ _ _ _ _ (by omega) (by exact hEI.1) (by rw [← hEX]; exact h89.1) (by exact RV2_KG hRV (KG_tr h81.2.1 h89.2)) (by exact (h89.2 11 (by omega)).trans ((h81.2.1 11 (by omega)).trans h311)) (by rw [psT_s hk.1, show 100 - (k + 1).toNat = 100 - k.toNat - 1 by omega, ← hrun, hrs, if_neg hx1]) (by omega)
          exact L71 _ _ _ _ _ _ _ _ _ _ (by omega) (by exact hI) (by exact hA) (by exact hRV0) (by exact st_n (by omega)) (by rfl) (Nat.lt_succ_self _)
        · have hsyn : syn t (G 1) 100 0 = G2 9 := by
            rcases hRcase with z | z
            · exact absurd z.1 (by omega)
            · exact z.2
          refine j_bipush C dX6_carryOut_57 (by decide) ?_
          refine j_aload_n C dX6_carryOut_59 rfl ?_
          refine j_get C 0 0 22 rfl rfl rfl wU_X6 (by decide) wF_X6_213 rfl dX6_carryOut_60 ?_
          refine j_isub C dX6_carryOut_63 ?_
          refine hR (G2, M, V, R1, N1, D1, B1, BR, W2, F2, Q2, A2, T2) dX6_carryOut_64 ?_ rfl (Nat.le_of_ble_eq_true rfl) (Nat.le_of_ble_eq_true rfl)
          refine ⟨?_, ?_, Or.inl ⟨by omega, ⟨rfl, rfl⟩, h012⟩⟩
          · unfold cRes
            rw [if_pos (by omega), hsyn]
          · unfold cRes
            rw [if_pos (by omega)]
            exact hA
      · refine j_aload_n C dX6_carryOut_31 rfl ?_
        refine j_get C 0 0 21 rfl rfl rfl wU_X6 (by decide) wF_X6_210 rfl dX6_carryOut_32 ?_
        refine j_aload_n C dX6_carryOut_35 rfl ?_
        refine j_get C 0 0 5 rfl rfl rfl wU_X6 (by decide) wF_X6_207 rfl dX6_carryOut_36 ?_
        refine j_icmp_ge (tgt := 49) C dX6_carryOut_39 (by decide) (by omega) (by omega) (by omega) (by omega) (fun c39 => ?_) (fun c39 => ?_)
        · have hRcase := hR2
          refine j_aload_n C dX6_carryOut_49 rfl ?_
          refine j_get C 0 0 22 rfl rfl rfl wU_X6 (by decide) wF_X6_213 rfl dX6_carryOut_50 ?_
          refine j_iconst C dX6_carryOut_53 ?_
          refine j_icmp_eq (tgt := 65) C dX6_carryOut_54 (by decide) (by omega) (by omega) (by omega) (by omega) (fun c54 => ?_) (fun c54 => ?_)
          · have hRD : G2 8 = psT t (G 1) (G2 11).toNat ∧ (2 * G2 11 ≤ G2 8 ∧ G2 8 ≤ G 1) ∧ syn t (G 1) 100 0 = syn t (G 1) (100 - (G2 11).toNat) (psT t (G 1) (G2 11).toNat) ∧ ∀ k : Int, 0 ≤ k → k < G2 11 → RDk t (G 1) W2 F2 Q2 A2 T2 k := by
              rcases hRcase with z | z
              · exact z.2.2
              · exact absurd (by omega) z.1
            have hm2 := h28 (by omega)
            have hend : G 1 ≤ psT t (G 1) (G2 11).toNat := by omega
            have hsyn : syn t (G 1) 100 0 = -1 := by rw [hRD.2.2.1, syn_e hend]
            refine j_aload_n C dX6_carryOut_65 rfl ?_
            refine j_perm (pm_14_0_1_2 _ _ _ _ _ _ _ _ _ _ _ _ _ _) ?_
            refine j_callVv C (As := []) (c_X6_saves _ _ _ _ _ _ _ (by rw [h012.1]; exact hc)) 0 nf_X6_saves (jb := 0) rfl rfl wL_X6_150 wI_X6_saves wSe_X6_X6_saves wIn_X6 wC_X6_saves rfl rfl (by decide) dX6_carryOut_66 (Nat.le_of_ble_eq_true rfl) ⟨Nat.le_of_ble_eq_true rfl, Nat.le_of_ble_eq_true rfl⟩ (fun u66 h66 => ?_)
            refine j_perm (pr_14_0_1_2 _ _ _ _ _ _ _ _ _ _ _ _ _ _) ?_
            have hRV0 := RV2_of (G := G) (Ga := G2) ⟨h012.1, h012.2.1, h012.2.2⟩ h66
            refine j_iconst C dX6_carryOut_69 ?_
            refine j_istn_1 C dX6_carryOut_70 rfl ?_
            have L71 : ∀ (fuel : Nat) (k : Int) (T3 G3 M3 R3 N3 D3 B3 BR3 : Int → Int) (hk : 0 ≤ k ∧ k ≤ G2 11) (hIT : Inv T3) (hAT : Ag T3 M3) (hRV : RV2 G M V G3 u66) (h311 : G3 11 = G2 11) (hrun : run t (G 1) (100 - k.toNat) (psT t (G 1) k.toNat) T3 k = run t (G 1) 100 0 S 0) (hf71 : (G2 11 - k).toNat < fuel), J K 0 0 [mO a G3, [(a 1, aJ ((kC K) 0) 325 M3)], [(a 3, aJ ((kC K) 0) 1300 u66)], [(a 4, aJ ((kC K) 0) 100 t)], [(a 7, aJ ((kC K) 0) 8 R3)], [(a 8, aJ ((kC K) 0) 9 N3)], [(a 5, aJ ((kC K) 0) 49 D3)], [(a 6, aJ ((kC K) 0) 490 B3)], [(a 9, aJ ((kC K) 0) 8 BR3)], [(a 14, aJ ((kC K) 0) 50 W2)], [(a 15, aJ ((kC K) 0) 50 F2)], [(a 16, aJ ((kC K) 0) 50 Q2)], [(a 17, aJ ((kC K) 0) 50 A2)], [(a 18, aJ ((kC K) 0) 50 T2)]] [some (.ref (a 0)), some (.int (iI k))] 71 [] := by
              intro fuel
              induction fuel with
              | zero => intro k T3 G3 M3 R3 N3 D3 B3 BR3 hk hIT hAT hRV h311 hrun hf71; exact absurd hf71 (Nat.not_lt_zero _)
              | succ fuel ih71 =>
                intro k T3 G3 M3 R3 N3 D3 B3 BR3 hk hIT hAT hRV h311 hrun hf71
                refine j_iload_n C dX6_carryOut_71 rfl ?_
                have L98 : ∀ (G9 R9 N9 D9 B9 BR9 : Int → Int) (hres : k = (run t (G 1) 100 0 S 0).1 ∧ Ag (run t (G 1) 100 0 S 0).2 M3) (hRV9 : RV2 G M V G9 u66), J K 0 0 [mO a G9, [(a 1, aJ ((kC K) 0) 325 M3)], [(a 3, aJ ((kC K) 0) 1300 u66)], [(a 4, aJ ((kC K) 0) 100 t)], [(a 7, aJ ((kC K) 0) 8 R9)], [(a 8, aJ ((kC K) 0) 9 N9)], [(a 5, aJ ((kC K) 0) 49 D9)], [(a 6, aJ ((kC K) 0) 490 B9)], [(a 9, aJ ((kC K) 0) 8 BR9)], [(a 14, aJ ((kC K) 0) 50 W2)], [(a 15, aJ ((kC K) 0) 50 F2)], [(a 16, aJ ((kC K) 0) 50 Q2)], [(a 17, aJ ((kC K) 0) 50 A2)], [(a 18, aJ ((kC K) 0) 50 T2)]] [some (.ref (a 0)), some (.int (iI k))] 98 [] := by
                  intro G9 R9 N9 D9 B9 BR9 hres hRV9
                  refine j_iload_n C dX6_carryOut_98 rfl ?_
                  refine hR (G9, M3, u66, R9, N9, D9, B9, BR9, W2, F2, Q2, A2, T2) dX6_carryOut_99 ?_ rfl (Nat.le_of_ble_eq_true rfl) (Nat.le_of_ble_eq_true rfl)
                  refine ⟨?_, ?_, Or.inr ⟨hsyn, hRV9⟩⟩
                  · unfold cRes
                    rw [if_neg (by omega)]
                    exact hres.1
                  · unfold cRes
                    rw [if_neg (by omega)]
                    exact hres.2
                refine j_aload_n C dX6_carryOut_72 rfl ?_
                refine j_get C 0 0 24 rfl rfl rfl wU_X6 (by decide) wF_X6_229 rfl dX6_carryOut_73 ?_
                refine j_icmp_ge (tgt := 98) C dX6_carryOut_76 (by decide) (by omega) (by omega) (by omega) (by omega) (fun c76 => ?_) (fun c76 => ?_)
                · exact L98 _ _ _ _ _ _ (by rw [← hrun, run_e (Or.inl (by rw [show k.toNat = (G2 11).toNat by omega]; exact hend))]; exact ⟨rfl, hAT⟩) (by exact hRV)
                · have hRk := hRD.2.2.2 k hk.1 (by omega)
                  have hok := RDk_ok hRk
                  have hEX := RDk_ex (S := T3) hRk
                  have hEI := exO_Inv (S := T3) (s := W2 k) (f := F2 k) (e := Q2 k) (x := A2 k) (y := T2 k) (i := F2 k) hIT (fun q => by have := hok.1 q; omega) (fun q => by have := hok.2.1 q; omega)
                  rw [hEX] at hEI
                  have hrs := run_s (t := t) (n := G 1) (a := psT t (G 1) k.toNat) (k := k) (S := T3) (f := 100 - k.toNat) (by omega) (fun q => by rcases q with q | q; have := hRk.2.1; omega; exact q hRk.1)
                  refine j_aload_n C dX6_carryOut_79 rfl ?_
                  refine j_iload_n C dX6_carryOut_80 rfl ?_
                  refine j_perm (pm_14_0_1_4_5_6_7_8_9_10_11 _ _ _ _ _ _ _ _ _ _ _ _ _ _) ?_
                  refine j_callVi C (As := [.int (iI _)]) (c_X6_can _ _ _ _ _ _ _ _ _ _ _ _ _ _ (A2) (T2) (T3) _ (by exact hIT) (by exact hAT) (by exact hok) (by first | assumption | omega)) 1 nf_X6_can (jb := 0) rfl rfl wL_X6_242 wI_X6_can wSe_X6_X6_can wIn_X6 wC_X6_can rfl rfl (by decide) dX6_carryOut_81 (Nat.le_of_ble_eq_true rfl) ⟨Nat.le_of_ble_eq_true rfl, Nat.le_of_ble_eq_true rfl⟩ (fun x81 u81 h81 => ?_)
                  refine j_perm (pr_14_0_1_4_5_6_7_8_9_10_11 _ _ _ _ _ _ _ _ _ _ _ _ _ _) ?_
                  have hx81b : x81 = 0 ∨ x81 = 1 := by rw [h81.1, hEX]; exact hEI.2
                  refine j_if_eq (tgt := 98) C dX6_carryOut_84 (by decide) (by omega) (by omega) (fun c84 => ?_) (fun c84 => ?_)
                  · exact L98 _ _ _ _ _ _ (by rw [← hrun, hrs, if_pos (by rw [← hEX, ← h81.1]; exact c84), ← hEX, exO_0 (by rw [← h81.1]; exact c84)]; exact ⟨rfl, hAT⟩) (by exact RV2_KG hRV h81.2.1)
                  · have hx1 : ¬ (exT t (G 1) (psT t (G 1) k.toNat) T3).1 = 0 := by rw [← hEX, ← h81.1]; exact c84
                    refine j_aload_n C dX6_carryOut_87 rfl ?_
                    refine j_iload_n C dX6_carryOut_88 rfl ?_
                    refine j_perm (pm_14_0_1_4_5_6_7_8_9_10_11_12_13 _ _ _ _ _ _ _ _ _ _ _ _ _ _) ?_
                    refine j_callVv C (As := [.int (iI _)]) (c_X6_does _ _ _ _ _ _ _ _ _ _ _ _ _ _ _ _ (T3) _ (by exact hIT) (by exact hAT) (by exact hok) (by first | assumption | omega) (by have := h81.1; rcases hEI.2 with z | z; (exact absurd z hx1); (rw [hEX]; exact z)) (by exact h81.2.2)) 1 nf_X6_does (jb := 0) rfl rfl wL_X6_245 wI_X6_does wSe_X6_X6_does wIn_X6 wC_X6_does rfl rfl (by decide) dX6_carryOut_89 (Nat.le_of_ble_eq_true rfl) ⟨Nat.le_of_ble_eq_true rfl, Nat.le_of_ble_eq_true rfl⟩ (fun u89 h89 => ?_)
                    refine j_perm (pr_14_0_1_4_5_6_7_8_9_10_11_12_13 _ _ _ _ _ _ _ _ _ _ _ _ _ _) ?_
                    refine j_iinc_1 C dX6_carryOut_92 rfl ?_
                    refine j_goto (tgt := 71) C dX6_carryOut_95 (by decide) ?_
                    exact ih71 _ _ _ _ _ _ _ _ _ (by omega) (by exact hEI.1) (by rw [← hEX]; exact h89.1) (by exact RV2_KG hRV (KG_tr h81.2.1 h89.2)) (by exact (h89.2 11 (by omega)).trans ((h81.2.1 11 (by omega)).trans h311)) (by rw [psT_s hk.1, show 100 - (k + 1).toNat = 100 - k.toNat - 1 by omega, ← hrun, hrs, if_neg hx1]) (by omega)
            exact L71 _ _ _ _ _ _ _ _ _ _ (by omega) (by exact hI) (by exact hA) (by exact hRV0) (by exact st_n (by omega)) (by rfl) (Nat.lt_succ_self _)
          · have hsyn : syn t (G 1) 100 0 = G2 9 := by
              rcases hRcase with z | z
              · exact absurd z.1 (by omega)
              · exact z.2
            refine j_bipush C dX6_carryOut_57 (by decide) ?_
            refine j_aload_n C dX6_carryOut_59 rfl ?_
            refine j_get C 0 0 22 rfl rfl rfl wU_X6 (by decide) wF_X6_213 rfl dX6_carryOut_60 ?_
            refine j_isub C dX6_carryOut_63 ?_
            refine hR (G2, M, V, R1, N1, D1, B1, BR, W2, F2, Q2, A2, T2) dX6_carryOut_64 ?_ rfl (Nat.le_of_ble_eq_true rfl) (Nat.le_of_ble_eq_true rfl)
            refine ⟨?_, ?_, Or.inl ⟨by omega, ⟨rfl, rfl⟩, h012⟩⟩
            · unfold cRes
              rw [if_pos (by omega), hsyn]
            · unfold cRes
              rw [if_pos (by omega)]
              exact hA
        · have hG28 := h28 (by omega)
          refine j_aload_n C dX6_carryOut_42 rfl ?_
          refine j_perm (pm_14_0_3_9_10_11_12_13 _ _ _ _ _ _ _ _ _ _ _ _ _ _) ?_
          refine j_callVv C (As := []) (c_X6_readsOrder _ _ _ _ _ _ _ _ _ _ _ (by rw [h012.2.1]; exact hb) (by rw [h012.2.1]; omega) (by omega) (by omega)) 0 nf_X6_readsOrder (jb := 0) rfl rfl wL_X6_239 wI_X6_readsOrder wSe_X6_X6_readsOrder wIn_X6 wC_X6_readsOrder rfl rfl (by decide) dX6_carryOut_43 (Nat.le_of_ble_eq_true rfl) ⟨Nat.le_of_ble_eq_true rfl, Nat.le_of_ble_eq_true rfl⟩ (fun u43 h43 => ?_)
          refine j_perm (pr_14_0_3_9_10_11_12_13 _ _ _ _ _ _ _ _ _ _ _ _ _ _) ?_
          have hnx := RST_nx (u := u43.1) ⟨h012.2.1, by omega⟩ hR2 (by omega) (by omega) h43.2.1 h43.2.2
          refine j_goto (tgt := 23) C dX6_carryOut_46 (by decide) ?_
          exact ih23 _ _ _ _ _ _ (m - 1) (by exact ⟨(h43.1 0 (by omega)).trans h012.1, (h43.1 1 (by omega)).trans h012.2.1, (h43.1 2 (by omega)).trans h012.2.2⟩) (by exact hnx.1) (by rcases hnx.1 with z | z; (rw [z.1]; omega); (rw [← z.2]; omega)) (by intro q; have := hm (by omega); have := hnx.2 q; omega) (by have := hm (by omega); omega)
  exact L23 _ _ _ _ _ _ _ (101) (by exact ⟨by rw [st_n (by omega), st_n (by omega), st_n (by omega), st_n (by omega)], by rw [st_n (by omega), st_n (by omega), st_n (by omega), st_n (by omega)], by rw [st_n (by omega), st_n (by omega), st_n (by omega), st_s]; omega⟩) (by refine Or.inl ?_; rw [st_s, show (st (st (st (st G 2 u4) 8 0) 9 (-1)) 11 0) 9 = -1 by rw [st_n (by omega), st_s], show (st (st (st (st G 2 u4) 8 0) 9 (-1)) 11 0) 8 = 0 by rw [st_n (by omega), st_n (by omega), st_s]]; exact ⟨rfl, by omega, rfl, by omega, rfl, fun k k0 k1 => by omega⟩) (by rw [show (st (st (st (st G 2 u4) 8 0) 9 (-1)) 11 0) 9 = -1 by rw [st_n (by omega), st_s]]; omega) (by intro _; rw [show (st (st (st (st G 2 u4) 8 0) 9 (-1)) 11 0) 8 = 0 by rw [st_n (by omega), st_n (by omega), st_s]]; omega) (Nat.lt_succ_self _)
