/-! the class: orders carried out -/
/-- what an order does: 1 and the state behind it, or 0 -/
def exO (S : Int → Int) (s f e x y i : Int) : Int × (Int → Int) :=
  if s = 112 then (if f < S 0 ∧ e < S 0 ∧ f ≠ e ∧ S 1 < 40 then (1, addP S f e x y) else (0, S))
  else if s = 120 then (if i < S 1 ∧ 0 < am S i ∧ di S i = 0 then (1, st S (9 + 8 * i) 1) else (0, S))
  else if s = 121 then (if i < S 1 ∧ di S i ≠ 0 then (1, st S (9 + 8 * i) 0) else (0, S))
  else if s = 98 then (if best S = -1 then (0, S) else (1, disB S))
  else if s = 97 then (1, (disA 49 S 0).1) else (0, S)
theorem exO_congr {S : Int → Int} {s f e x y i f' e' x' y' i' : Int} (h1 : s = 112 → f = f' ∧ e = e' ∧ x = x' ∧ y = y') (h2 : s = 120 ∨ s = 121 → i = i') : exO S s f e x y i = exO S s f' e' x' y' i' := by
  unfold exO
  by_cases c : s = 112
  · obtain ⟨rfl, rfl, rfl, rfl⟩ := h1 c
    rw [if_pos c, if_pos c]
  · rw [if_neg c, if_neg c]
    by_cases c2 : s = 120
    · rw [h2 (Or.inl c2)]
    · by_cases c3 : s = 121
      · rw [h2 (Or.inr c3)]
      · rw [if_neg c2, if_neg c2, if_neg c3, if_neg c3]
def OK3 (O : Int → Int) : Prop := (O 3 = 112 → (0 ≤ O 4 ∧ O 4 ≤ 6) ∧ (0 ≤ O 5 ∧ O 5 ≤ 6) ∧ (1 ≤ O 6 ∧ O 6 ≤ 1000) ∧ 1 ≤ O 7 ∧ O 7 ≤ 9) ∧ (O 3 = 120 ∨ O 3 = 121 → 0 ≤ O 8 ∧ O 8 ≤ 99) ∧ -1 ≤ O 3 ∧ O 3 ≤ 127
theorem addP_Inv {S : Int → Int} {a e x y : Int} (hI : Inv S) (hn : S 1 < 40) (ha : 0 ≤ a ∧ a < S 0) (he : 0 ≤ e ∧ e < S 0) (hne : a ≠ e) (hx : 1 ≤ x ∧ x ≤ 1000) (hy : 1 ≤ y ∧ y ≤ 9) : Inv (addP S a e x y) := by
  have hN := hI.2.1
  have e0 : addP S a e x y 0 = S 0 := by unfold addP; simp only [st]; repeat (rw [if_neg (by omega)])
  have e1 : addP S a e x y 1 = S 1 + 1 := by unfold addP; rw [st_s]; simp only [st]; repeat (rw [if_neg (by omega)])
  refine ⟨by rw [e0]; exact hI.1, by rw [e1]; omega, fun k h0 h1 => ?_⟩
  rw [e1] at h1
  rw [e0]
  by_cases c : k = S 1
  · subst c
    have a1 : fr (addP S a e x y) (S 1) = a := by unfold fr addP; simp only [st]; repeat (first | rw [if_pos trivial] | rw [if_neg (by omega)] | rw [if_pos (by omega)])
    have a2 : tO (addP S a e x y) (S 1) = e := by unfold tO addP; simp only [st]; repeat (first | rw [if_pos trivial] | rw [if_neg (by omega)] | rw [if_pos (by omega)])
    have a3 : am (addP S a e x y) (S 1) = x := by unfold am addP; simp only [st]; repeat (first | rw [if_pos trivial] | rw [if_neg (by omega)] | rw [if_pos (by omega)])
    have a4 : ra (addP S a e x y) (S 1) = y := by unfold ra addP; simp only [st]; repeat (first | rw [if_pos trivial] | rw [if_neg (by omega)] | rw [if_pos (by omega)])
    have a5 : di (addP S a e x y) (S 1) = 0 := by unfold di addP; simp only [st]; repeat (first | rw [if_pos trivial] | rw [if_neg (by omega)] | rw [if_pos (by omega)])
    rw [a1, a2, a3, a4, a5]
    omega
  · have f := hI.2.2 k h0 (by omega)
    have o : ∀ j : Int, 0 ≤ j → j < 8 → addP S a e x y (5 + 8 * k + j) = S (5 + 8 * k + j) := fun j j0 j1 => by unfold addP; simp only [st]; repeat (rw [if_neg (by omega)])
    have a1 : fr (addP S a e x y) k = fr S k := by have := o 0 (by decide) (by decide); unfold fr; rw [show 5 + 8 * k = 5 + 8 * k + 0 by omega]; exact this
    have a2 : tO (addP S a e x y) k = tO S k := by have := o 1 (by decide) (by decide); unfold tO; rw [show 6 + 8 * k = 5 + 8 * k + 1 by omega]; exact this
    have a3 : am (addP S a e x y) k = am S k := by have := o 2 (by decide) (by decide); unfold am; rw [show 7 + 8 * k = 5 + 8 * k + 2 by omega]; exact this
    have a4 : ra (addP S a e x y) k = ra S k := by have := o 3 (by decide) (by decide); unfold ra; rw [show 8 + 8 * k = 5 + 8 * k + 3 by omega]; exact this
    have a5 : di (addP S a e x y) k = di S k := by have := o 4 (by decide) (by decide); unfold di; rw [show 9 + 8 * k = 5 + 8 * k + 4 by omega]; exact this
    rw [a1, a2, a3, a4, a5]
    exact f
theorem exO_Inv {S : Int → Int} {s f e x y i : Int} (hI : Inv S) (h1 : s = 112 → (0 ≤ f ∧ f ≤ 6) ∧ (0 ≤ e ∧ e ≤ 6) ∧ (1 ≤ x ∧ x ≤ 1000) ∧ 1 ≤ y ∧ y ≤ 9) (h2 : s = 120 ∨ s = 121 → 0 ≤ i ∧ i ≤ 99) : Inv (exO S s f e x y i).2 ∧ ((exO S s f e x y i).1 = 0 ∨ (exO S s f e x y i).1 = 1) := by
  unfold exO
  split
  · rename_i c
    have g := h1 c
    split
    · rename_i q
      exact ⟨addP_Inv hI q.2.2.2 ⟨g.1.1, q.1⟩ ⟨g.2.1.1, q.2.1⟩ q.2.2.1 g.2.2.1 g.2.2.2, Or.inr rfl⟩
    · exact ⟨hI, Or.inl rfl⟩
  · split
    · rename_i c
      have g := h2 (Or.inl c)
      split
      · exact ⟨Inv_di hI g.1 (Or.inr rfl), Or.inr rfl⟩
      · exact ⟨hI, Or.inl rfl⟩
    · split
      · rename_i c
        have g := h2 (Or.inr c)
        split
        · exact ⟨Inv_di hI g.1 (Or.inl rfl), Or.inr rfl⟩
        · exact ⟨hI, Or.inl rfl⟩
      · split
        · split
          · exact ⟨hI, Or.inl rfl⟩
          · rename_i q
            exact ⟨disB_Inv hI q, Or.inr rfl⟩
        · split
          · exact ⟨disA_Inv 49 S 0 hI, Or.inr rfl⟩
          · exact ⟨hI, Or.inl rfl⟩
/-- the order at a place of the text, done -/
def exT (t : Int → Int) (n a : Int) (S : Int → Int) : Int × (Int → Int) := exO S (pk t n a) (pk t n (a + 1) - 48) (pk t n (a + 2) - 48) (fV t n 4 (a + 4) 0) (pk t n (a + 4 + fK t n 4 (a + 4) + 1) - 48) (fV t n 2 (a + 1) 0)
/-- the orders from a place on: how many were done, the state behind them -/
def run (t : Int → Int) (n : Int) : Nat → Int → (Int → Int) → Int → Int × (Int → Int)
  | 0, _, S, k => (k, S)
  | g + 1, a, S, k => if n ≤ a ∨ ordE t n a ≠ -1 then (k, S) else if (exT t n a S).1 = 0 then (k, (exT t n a S).2) else run t n g (ordN t n a) (exT t n a S).2 (k + 1)
theorem run_e {t : Int → Int} {n a k : Int} {S : Int → Int} {g : Nat} (h : n ≤ a ∨ ordE t n a ≠ -1) : run t n g a S k = (k, S) := by
  cases g with
  | zero => rfl
  | succ g => rw [run, if_pos h]
/-- the fields of an order that was read, and what it does -/
theorem RD_ex {t O u S : Int → Int} (h : RD t O 1 u) : OK3 u ∧ exO S (u 3) (u 4) (u 5) (u 6) (u 7) (u 8) = exT t (O 0) (O 1) S ∧ O 1 < O 0 ∧ ordE t (O 0) (O 1) = -1 ∧ u 1 = ordN t (O 0) (O 1) ∧ u 0 = O 0 ∧ OB t u := by
  rcases h with h | ⟨h1, h2, h3, h4, h | h⟩
  · exact absurd h.2.1 (by decide)
  · have hb := pk_bd h3.1 (O 1)
    rw [h2] at hb
    refine ⟨⟨fun q => ?_, fun q => ?_, by omega, by omega⟩, ?_, h1, h.2.1, h.2.2.1, h2, h3⟩
    · have := h.2.2.2.2.1 (by omega)
      omega
    · have := h.2.2.2.2.2 (by omega)
      omega
    · unfold exT
      rw [← h4]
      exact exO_congr (fun q => by have := h.2.2.2.2.1 (by omega); exact ⟨this.1, this.2.1, this.2.2.1, this.2.2.2.1⟩) (fun q => (h.2.2.2.2.2 (by omega)).1)
  · exact absurd h.1 (by decide)
theorem RD_01 {t O u : Int → Int} {x : Int} (h : RD t O x u) : x = 0 ∨ x = 1 := by
  rcases h with h | ⟨-, -, -, -, h | h⟩
  · exact Or.inl h.2.1
  · exact Or.inr h.1
  · exact Or.inl h.1
theorem RD_e {t O u : Int → Int} (h : RD t O 0 u) : (O 0 ≤ O 1 ∨ ordE t (O 0) (O 1) ≠ -1) ∧ u 0 = O 0 := by
  rcases h with h | ⟨-, h2, -, -, h | h⟩
  · exact ⟨Or.inl h.1, by rw [h.2.2]⟩
  · exact absurd h.1 (by decide)
  · exact ⟨Or.inr h.2.1, h2⟩
theorem fE_bd (t : Int → Int) (n : Int) (d : Nat) (lo hi a : Int) (ha : 0 ≤ a) : -1 ≤ fE t n d lo hi a ∧ fE t n d lo hi a ≤ a + d := by
  have := fK_bd t n d a
  unfold fE
  split
  · omega
  · split <;> omega
theorem ordE_bd (t : Int → Int) (n a : Int) (ha : 0 ≤ a) : (-1 ≤ ordE t n a ∧ ordE t n a ≤ a + 20) ∧ a ≤ ordN t n a := by
  have h1 := fE_bd t n 4 1 1000 (a + 4) (by omega)
  have h2 := fE_bd t n 2 0 99 (a + 1) (by omega)
  have h3 := fK_bd t n 4 (a + 4)
  have h4 := fK_bd t n 2 (a + 1)
  have p2 : -1 ≤ prE2 t n (a + 4 + fK t n 4 (a + 4)) ∧ prE2 t n (a + 4 + fK t n 4 (a + 4)) ≤ a + 20 := by
    unfold prE2
    split
    · omega
    · split
      · omega
      · split <;> omega
  have p1 : -1 ≤ prE t n a ∧ prE t n a ≤ a + 20 := by
    unfold prE
    split
    · omega
    · split
      · omega
      · split
        · omega
        · split <;> omega
  have p3 : -1 ≤ nuE t n a ∧ nuE t n a ≤ a + 20 := by
    unfold nuE
    split
    · omega
    · split <;> omega
  constructor
  · unfold ordE
    split
    · exact p1
    · split
      · exact p3
      · split
        · split <;> omega
        · omega
  · unfold ordN
    split
    · omega
    · split <;> omega
theorem syn_bd {t : Int → Int} {n : Int} (h : TX t n) : ∀ (f : Nat) (a : Int), 0 ≤ a → -1 ≤ syn t n f a ∧ syn t n f a ≤ 120
  | 0, _, _ => ⟨Int.le_refl _, by show (-1 : Int) ≤ 120; decide⟩
  | f + 1, a, ha => by
    have hb := ordE_bd t n a ha
    have h0 := h.1
    rw [syn]
    split
    · exact ⟨Int.le_refl _, by decide⟩
    · split
      · exact syn_bd h f _ (by omega)
      · omega
def cRes (t : Int → Int) (n : Int) (S : Int → Int) : Int × (Int → Int) := if syn t n 100 0 ≠ -1 then (-10 - syn t n 100 0, S) else run t n 100 0 S 0
theorem pm_9_0_7 (B0 B1 B2 B3 B4 B5 B6 B7 B8 : va_W) : [B0, B1, B2, B3, B4, B5, B6, B7, B8].Perm ([B0, B7] ++ [B1, B2, B3, B4, B5, B6, B8]) := List.Perm.trans (List.Perm.refl _) (List.Perm.cons _ (List.perm_middle (l₁ := [B1, B2, B3, B4, B5, B6]) (a := B7) (l₂ := [B8])))
theorem pr_9_0_7 (B0 B1 B2 B3 B4 B5 B6 B7 B8 : va_W) : ([B0, B7] ++ [B1, B2, B3, B4, B5, B6, B8]).Perm [B0, B1, B2, B3, B4, B5, B6, B7, B8] := (pm_9_0_7 B0 B1 B2 B3 B4 B5 B6 B7 B8).symm
theorem pm_9_0_7_8 (B0 B1 B2 B3 B4 B5 B6 B7 B8 : va_W) : [B0, B1, B2, B3, B4, B5, B6, B7, B8].Perm ([B0, B7, B8] ++ [B1, B2, B3, B4, B5, B6]) := List.Perm.trans (List.Perm.refl _) (List.Perm.trans (List.Perm.cons _ (List.perm_middle (l₁ := [B1, B2, B3, B4, B5, B6]) (a := B7) (l₂ := [B8]))) (List.Perm.cons _ (List.Perm.cons _ (List.perm_middle (l₁ := [B1, B2, B3, B4, B5, B6]) (a := B8) (l₂ := [])))))
theorem pr_9_0_7_8 (B0 B1 B2 B3 B4 B5 B6 B7 B8 : va_W) : ([B0, B7, B8] ++ [B1, B2, B3, B4, B5, B6]).Perm [B0, B1, B2, B3, B4, B5, B6, B7, B8] := (pm_9_0_7_8 B0 B1 B2 B3 B4 B5 B6 B7 B8).symm
theorem pm_9_1_2_3_4_5_6_7 (B0 B1 B2 B3 B4 B5 B6 B7 B8 : va_W) : [B0, B1, B2, B3, B4, B5, B6, B7, B8].Perm ([B1, B2, B3, B4, B5, B6, B7] ++ [B0, B8]) := List.Perm.trans (List.perm_middle (l₁ := [B0]) (a := B1) (l₂ := [B2, B3, B4, B5, B6, B7, B8])) (List.Perm.trans (List.Perm.cons _ (List.perm_middle (l₁ := [B0]) (a := B2) (l₂ := [B3, B4, B5, B6, B7, B8]))) (List.Perm.trans (List.Perm.cons _ (List.Perm.cons _ (List.perm_middle (l₁ := [B0]) (a := B3) (l₂ := [B4, B5, B6, B7, B8])))) (List.Perm.trans (List.Perm.cons _ (List.Perm.cons _ (List.Perm.cons _ (List.perm_middle (l₁ := [B0]) (a := B4) (l₂ := [B5, B6, B7, B8]))))) (List.Perm.trans (List.Perm.cons _ (List.Perm.cons _ (List.Perm.cons _ (List.Perm.cons _ (List.perm_middle (l₁ := [B0]) (a := B5) (l₂ := [B6, B7, B8])))))) (List.Perm.trans (List.Perm.cons _ (List.Perm.cons _ (List.Perm.cons _ (List.Perm.cons _ (List.Perm.cons _ (List.perm_middle (l₁ := [B0]) (a := B6) (l₂ := [B7, B8]))))))) (List.Perm.cons _ (List.Perm.cons _ (List.Perm.cons _ (List.Perm.cons _ (List.Perm.cons _ (List.Perm.cons _ (List.perm_middle (l₁ := [B0]) (a := B7) (l₂ := [B8])))))))))))))
theorem pr_9_1_2_3_4_5_6_7 (B0 B1 B2 B3 B4 B5 B6 B7 B8 : va_W) : ([B1, B2, B3, B4, B5, B6, B7] ++ [B0, B8]).Perm [B0, B1, B2, B3, B4, B5, B6, B7, B8] := (pm_9_1_2_3_4_5_6_7 B0 B1 B2 B3 B4 B5 B6 B7 B8).symm
theorem pm_11_0_1_8 (B0 B1 B2 B3 B4 B5 B6 B7 B8 B9 B10 : va_W) : [B0, B1, B2, B3, B4, B5, B6, B7, B8, B9, B10].Perm ([B0, B1, B8] ++ [B2, B3, B4, B5, B6, B7, B9, B10]) := List.Perm.trans (List.Perm.refl _) (List.Perm.trans (List.Perm.cons _ (List.Perm.refl _)) (List.Perm.cons _ (List.Perm.cons _ (List.perm_middle (l₁ := [B2, B3, B4, B5, B6, B7]) (a := B8) (l₂ := [B9, B10])))))
theorem pr_11_0_1_8 (B0 B1 B2 B3 B4 B5 B6 B7 B8 B9 B10 : va_W) : ([B0, B1, B8] ++ [B2, B3, B4, B5, B6, B7, B9, B10]).Perm [B0, B1, B2, B3, B4, B5, B6, B7, B8, B9, B10] := (pm_11_0_1_8 B0 B1 B2 B3 B4 B5 B6 B7 B8 B9 B10).symm
theorem pm_11_0_2_3_4_5_6_7_8_9 (B0 B1 B2 B3 B4 B5 B6 B7 B8 B9 B10 : va_W) : [B0, B1, B2, B3, B4, B5, B6, B7, B8, B9, B10].Perm ([B0, B2, B3, B4, B5, B6, B7, B8, B9] ++ [B1, B10]) := List.Perm.trans (List.Perm.refl _) (List.Perm.trans (List.Perm.cons _ (List.perm_middle (l₁ := [B1]) (a := B2) (l₂ := [B3, B4, B5, B6, B7, B8, B9, B10]))) (List.Perm.trans (List.Perm.cons _ (List.Perm.cons _ (List.perm_middle (l₁ := [B1]) (a := B3) (l₂ := [B4, B5, B6, B7, B8, B9, B10])))) (List.Perm.trans (List.Perm.cons _ (List.Perm.cons _ (List.Perm.cons _ (List.perm_middle (l₁ := [B1]) (a := B4) (l₂ := [B5, B6, B7, B8, B9, B10]))))) (List.Perm.trans (List.Perm.cons _ (List.Perm.cons _ (List.Perm.cons _ (List.Perm.cons _ (List.perm_middle (l₁ := [B1]) (a := B5) (l₂ := [B6, B7, B8, B9, B10])))))) (List.Perm.trans (List.Perm.cons _ (List.Perm.cons _ (List.Perm.cons _ (List.Perm.cons _ (List.Perm.cons _ (List.perm_middle (l₁ := [B1]) (a := B6) (l₂ := [B7, B8, B9, B10]))))))) (List.Perm.trans (List.Perm.cons _ (List.Perm.cons _ (List.Perm.cons _ (List.Perm.cons _ (List.Perm.cons _ (List.Perm.cons _ (List.perm_middle (l₁ := [B1]) (a := B7) (l₂ := [B8, B9, B10])))))))) (List.Perm.trans (List.Perm.cons _ (List.Perm.cons _ (List.Perm.cons _ (List.Perm.cons _ (List.Perm.cons _ (List.Perm.cons _ (List.Perm.cons _ (List.perm_middle (l₁ := [B1]) (a := B8) (l₂ := [B9, B10]))))))))) (List.Perm.cons _ (List.Perm.cons _ (List.Perm.cons _ (List.Perm.cons _ (List.Perm.cons _ (List.Perm.cons _ (List.Perm.cons _ (List.Perm.cons _ (List.perm_middle (l₁ := [B1]) (a := B9) (l₂ := [B10])))))))))))))))))
theorem pr_11_0_2_3_4_5_6_7_8_9 (B0 B1 B2 B3 B4 B5 B6 B7 B8 B9 B10 : va_W) : ([B0, B2, B3, B4, B5, B6, B7, B8, B9] ++ [B1, B10]).Perm [B0, B1, B2, B3, B4, B5, B6, B7, B8, B9, B10] := (pm_11_0_2_3_4_5_6_7_8_9 B0 B1 B2 B3 B4 B5 B6 B7 B8 B9 B10).symm
theorem pm_11_9 (B0 B1 B2 B3 B4 B5 B6 B7 B8 B9 B10 : va_W) : [B0, B1, B2, B3, B4, B5, B6, B7, B8, B9, B10].Perm ([B9] ++ [B0, B1, B2, B3, B4, B5, B6, B7, B8, B10]) := List.perm_middle (l₁ := [B0, B1, B2, B3, B4, B5, B6, B7, B8]) (a := B9) (l₂ := [B10])
theorem pr_11_9 (B0 B1 B2 B3 B4 B5 B6 B7 B8 B9 B10 : va_W) : ([B9] ++ [B0, B1, B2, B3, B4, B5, B6, B7, B8, B10]).Perm [B0, B1, B2, B3, B4, B5, B6, B7, B8, B9, B10] := (pm_11_9 B0 B1 B2 B3 B4 B5 B6 B7 B8 B9 B10).symm
theorem pm_11_9_10 (B0 B1 B2 B3 B4 B5 B6 B7 B8 B9 B10 : va_W) : [B0, B1, B2, B3, B4, B5, B6, B7, B8, B9, B10].Perm ([B9, B10] ++ [B0, B1, B2, B3, B4, B5, B6, B7, B8]) := List.Perm.trans (List.perm_middle (l₁ := [B0, B1, B2, B3, B4, B5, B6, B7, B8]) (a := B9) (l₂ := [B10])) (List.Perm.cons _ (List.perm_middle (l₁ := [B0, B1, B2, B3, B4, B5, B6, B7, B8]) (a := B10) (l₂ := [])))
theorem pr_11_9_10 (B0 B1 B2 B3 B4 B5 B6 B7 B8 B9 B10 : va_W) : ([B9, B10] ++ [B0, B1, B2, B3, B4, B5, B6, B7, B8]).Perm [B0, B1, B2, B3, B4, B5, B6, B7, B8, B9, B10] := (pm_11_9_10 B0 B1 B2 B3 B4 B5 B6 B7 B8 B9 B10).symm
set_option maxHeartbeats 4000000 in
set_option maxRecDepth 100000 in
theorem c_X5_makeOrdered (l : Launch) (D : va_G) (cA : Nat → ClassId) (q v : Nat) (b tb r m o d : Nat → Nat) (c : Int) (S O : Int → Int) (hI : Inv S) (h4 : 0 ≤ O 4 ∧ O 4 ≤ 6) (h5o : 0 ≤ O 5 ∧ O 5 ≤ 6) (h6o : 1 ≤ O 6 ∧ O 6 ≤ 1000) (h7o : 1 ≤ O 7 ∧ O 7 ≤ 9) : MI (U := Unit) l yX5_makeOrdered cX5_makeOrdered 1 (some .boolean) (rmN 24 0 0) D cA [.ref (q)] [prO q v b tb r m o c, bk cA b S, orO o O] (fun x _ => x = if O 4 < S 0 ∧ O 5 < S 0 ∧ O 4 ≠ O 5 ∧ S 1 < 40 then 1 else 0) (fun _ => [prO q v b tb r m o c, bk cA b (if O 4 < S 0 ∧ O 5 < S 0 ∧ O 4 ≠ O 5 ∧ S 1 < 40 then addP S (O 4) (O 5) (O 6) (O 7) else S), orO o O]) := by
  refine m_startZ pn_X5 rfl (List.forall_mem_cons.mpr ⟨rfl, fun _ h => absurd h List.not_mem_nil⟩) (Nat.le_of_ble_eq_true rfl) ?_
  intro K C e1 e2 e3 hin hR
  subst e1 e2 e3
  have hN := hI.2.1
  have hQ := hI.1
  show J K 0 0 [prO q v b tb r m o c, bk (kC K) b S, orO o O] [some (.ref (q))] 0 []
  refine j_aload_n C dX5_makeOrdered_0 rfl ?_
  refine j_get C 0 0 0 rfl rfl rfl wU_X5 (by decide) wF_X5_12 rfl dX5_makeOrdered_1 ?_
  refine j_aload_n C dX5_makeOrdered_4 rfl ?_
  refine j_get C 0 0 4 rfl rfl rfl wU_X5 (by decide) wF_X5_36 rfl dX5_makeOrdered_5 ?_
  refine j_getN C 2 0 5 rfl rfl rfl wU_X2 (by decide) wFN_X5_301 rfl dX5_makeOrdered_8 ?_
  refine j_perm (pm_3_1 _ _ _) ?_
  refine j_callVi C (As := [.int (iI _)]) (c_X0_hasParty _ _ _ _ _ _ (by first | assumption | omega) (by first | assumption | omega)) 1 nf_X0_hasParty (jb := 0) rfl rfl wL_X5_62 wI_X0_hasParty wSe_X0_X0_hasParty wIn_X0 wC_X0_hasParty rfl rfl (by decide) dX5_makeOrdered_11 (Nat.le_of_ble_eq_true rfl) ⟨Nat.le_of_ble_eq_true rfl, Nat.le_of_ble_eq_true rfl⟩ (fun x11 u11 h11 => ?_)
  refine j_perm (pr_3_1 _ _ _) ?_
  refine j_if_eq (tgt := 78) C dX5_makeOrdered_14 (by decide) (by omega) (by omega) (fun c14 => ?_) (fun c14 => ?_)
  · have hno : ¬ (O 4 < S 0 ∧ O 5 < S 0 ∧ O 4 ≠ O 5 ∧ S 1 < 40) := by
      first | (have gg := h72; rw [h72] at c75; split at c75 <;> omega) | (have gg := h38; rw [h38] at c41; split at c41 <;> omega) | (have gg := h28; rw [h28] at c31; split at c31 <;> omega) | (rw [h11] at c14; split at c14 <;> omega)
    have hw : S = if O 4 < S 0 ∧ O 5 < S 0 ∧ O 4 ≠ O 5 ∧ S 1 < 40 then addP S (O 4) (O 5) (O 6) (O 7) else S := (if_neg hno).symm
    refine j_iconst C dX5_makeOrdered_78 ?_
    exact hR () dX5_makeOrdered_79 (by omega) (by rw [if_neg hno]) (by rw [← hw]) (Nat.le_of_ble_eq_true rfl) (Nat.le_of_ble_eq_true rfl)
  · refine j_aload_n C dX5_makeOrdered_17 rfl ?_
    refine j_get C 0 0 0 rfl rfl rfl wU_X5 (by decide) wF_X5_12 rfl dX5_makeOrdered_18 ?_
    refine j_aload_n C dX5_makeOrdered_21 rfl ?_
    refine j_get C 0 0 4 rfl rfl rfl wU_X5 (by decide) wF_X5_36 rfl dX5_makeOrdered_22 ?_
    refine j_getN C 2 0 6 rfl rfl rfl wU_X2 (by decide) wFN_X5_303 rfl dX5_makeOrdered_25 ?_
    refine j_perm (pm_3_1 _ _ _) ?_
    refine j_callVi C (As := [.int (iI _)]) (c_X0_hasParty _ _ _ _ _ _ (by first | assumption | omega) (by first | assumption | omega)) 1 nf_X0_hasParty (jb := 0) rfl rfl wL_X5_62 wI_X0_hasParty wSe_X0_X0_hasParty wIn_X0 wC_X0_hasParty rfl rfl (by decide) dX5_makeOrdered_28 (Nat.le_of_ble_eq_true rfl) ⟨Nat.le_of_ble_eq_true rfl, Nat.le_of_ble_eq_true rfl⟩ (fun x28 u28 h28 => ?_)
    refine j_perm (pr_3_1 _ _ _) ?_
    refine j_if_eq (tgt := 78) C dX5_makeOrdered_31 (by decide) (by omega) (by omega) (fun c31 => ?_) (fun c31 => ?_)
    · have hno : ¬ (O 4 < S 0 ∧ O 5 < S 0 ∧ O 4 ≠ O 5 ∧ S 1 < 40) := by
        first | (have gg := h72; rw [h72] at c75; split at c75 <;> omega) | (have gg := h38; rw [h38] at c41; split at c41 <;> omega) | (have gg := h28; rw [h28] at c31; split at c31 <;> omega) | (rw [h11] at c14; split at c14 <;> omega)
      have hw : S = if O 4 < S 0 ∧ O 5 < S 0 ∧ O 4 ≠ O 5 ∧ S 1 < 40 then addP S (O 4) (O 5) (O 6) (O 7) else S := (if_neg hno).symm
      refine j_iconst C dX5_makeOrdered_78 ?_
      exact hR () dX5_makeOrdered_79 (by omega) (by rw [if_neg hno]) (by rw [← hw]) (Nat.le_of_ble_eq_true rfl) (Nat.le_of_ble_eq_true rfl)
    · refine j_aload_n C dX5_makeOrdered_34 rfl ?_
      refine j_get C 0 0 0 rfl rfl rfl wU_X5 (by decide) wF_X5_12 rfl dX5_makeOrdered_35 ?_
      refine j_perm (pm_3_1 _ _ _) ?_
      refine j_callVi C (As := []) (c_X0_isFull _ _ _ _ _ (by first | assumption | omega)) 0 nf_X0_isFull (jb := 0) rfl rfl wL_X5_77 wI_X0_isFull wSe_X0_X0_isFull wIn_X0 wC_X0_isFull rfl rfl (by decide) dX5_makeOrdered_38 (Nat.le_of_ble_eq_true rfl) ⟨Nat.le_of_ble_eq_true rfl, Nat.le_of_ble_eq_true rfl⟩ (fun x38 u38 h38 => ?_)
      refine j_perm (pr_3_1 _ _ _) ?_
      refine j_if_ne (tgt := 78) C dX5_makeOrdered_41 (by decide) (by omega) (by omega) (fun c41 => ?_) (fun c41 => ?_)
      · have hno : ¬ (O 4 < S 0 ∧ O 5 < S 0 ∧ O 4 ≠ O 5 ∧ S 1 < 40) := by
          first | (have gg := h72; rw [h72] at c75; split at c75 <;> omega) | (have gg := h38; rw [h38] at c41; split at c41 <;> omega) | (have gg := h28; rw [h28] at c31; split at c31 <;> omega) | (rw [h11] at c14; split at c14 <;> omega)
        have hw : S = if O 4 < S 0 ∧ O 5 < S 0 ∧ O 4 ≠ O 5 ∧ S 1 < 40 then addP S (O 4) (O 5) (O 6) (O 7) else S := (if_neg hno).symm
        refine j_iconst C dX5_makeOrdered_78 ?_
        exact hR () dX5_makeOrdered_79 (by omega) (by rw [if_neg hno]) (by rw [← hw]) (Nat.le_of_ble_eq_true rfl) (Nat.le_of_ble_eq_true rfl)
      · refine j_aload_n C dX5_makeOrdered_44 rfl ?_
        refine j_get C 0 0 4 rfl rfl rfl wU_X5 (by decide) wF_X5_36 rfl dX5_makeOrdered_45 ?_
        refine j_getN C 2 0 5 rfl rfl rfl wU_X2 (by decide) wFN_X5_301 rfl dX5_makeOrdered_48 ?_
        refine j_aload_n C dX5_makeOrdered_51 rfl ?_
        refine j_get C 0 0 4 rfl rfl rfl wU_X5 (by decide) wF_X5_36 rfl dX5_makeOrdered_52 ?_
        refine j_getN C 2 0 6 rfl rfl rfl wU_X2 (by decide) wFN_X5_303 rfl dX5_makeOrdered_55 ?_
        refine j_aload_n C dX5_makeOrdered_58 rfl ?_
        refine j_get C 0 0 4 rfl rfl rfl wU_X5 (by decide) wF_X5_36 rfl dX5_makeOrdered_59 ?_
        refine j_getN C 2 0 7 rfl rfl rfl wU_X2 (by decide) wFN_X5_305 rfl dX5_makeOrdered_62 ?_
        refine j_aload_n C dX5_makeOrdered_65 rfl ?_
        refine j_get C 0 0 4 rfl rfl rfl wU_X5 (by decide) wF_X5_36 rfl dX5_makeOrdered_66 ?_
        refine j_getN C 2 0 8 rfl rfl rfl wU_X2 (by decide) wFN_X5_307 rfl dX5_makeOrdered_69 ?_
        refine j_perm (pm_3 _ _ _) ?_
        refine j_callSi C (As := [.int (iI _), .int (iI _), .int (iI _), .int (iI _)]) (c_X5_canBePromised _ _ _ _ _ _ _ (by first | assumption | omega) (by first | assumption | omega) (by first | assumption | omega) (by first | assumption | omega)) 4 nf_X5_canBePromised.2 wL_X5_71 wS_X5_canBePromised wIn_X5 wC_X5_canBePromised rfl rfl (by decide) dX5_makeOrdered_72 (Nat.le_of_ble_eq_true rfl) ⟨Nat.le_of_ble_eq_true rfl, Nat.le_of_ble_eq_true rfl⟩ (fun x72 u72 h72 => ?_)
        refine j_perm (pr_3 _ _ _) ?_
        refine j_if_ne (tgt := 80) C dX5_makeOrdered_75 (by decide) (by omega) (by omega) (fun c75 => ?_) (fun c75 => ?_)
        · have hye : O 4 < S 0 ∧ O 5 < S 0 ∧ O 4 ≠ O 5 ∧ S 1 < 40 := by
            rw [h72] at c75
            rw [h38] at c41
            rw [h28] at c31
            rw [h11] at c14
            split at c75 <;> split at c41 <;> split at c31 <;> split at c14 <;> omega
          refine j_aload_n C dX5_makeOrdered_80 rfl ?_
          refine j_get C 0 0 0 rfl rfl rfl wU_X5 (by decide) wF_X5_12 rfl dX5_makeOrdered_81 ?_
          refine j_aload_n C dX5_makeOrdered_84 rfl ?_
          refine j_get C 0 0 4 rfl rfl rfl wU_X5 (by decide) wF_X5_36 rfl dX5_makeOrdered_85 ?_
          refine j_getN C 2 0 5 rfl rfl rfl wU_X2 (by decide) wFN_X5_301 rfl dX5_makeOrdered_88 ?_
          refine j_aload_n C dX5_makeOrdered_91 rfl ?_
          refine j_get C 0 0 4 rfl rfl rfl wU_X5 (by decide) wF_X5_36 rfl dX5_makeOrdered_92 ?_
          refine j_getN C 2 0 6 rfl rfl rfl wU_X2 (by decide) wFN_X5_303 rfl dX5_makeOrdered_95 ?_
          refine j_aload_n C dX5_makeOrdered_98 rfl ?_
          refine j_get C 0 0 4 rfl rfl rfl wU_X5 (by decide) wF_X5_36 rfl dX5_makeOrdered_99 ?_
          refine j_getN C 2 0 7 rfl rfl rfl wU_X2 (by decide) wFN_X5_305 rfl dX5_makeOrdered_102 ?_
          refine j_aload_n C dX5_makeOrdered_105 rfl ?_
          refine j_get C 0 0 4 rfl rfl rfl wU_X5 (by decide) wF_X5_36 rfl dX5_makeOrdered_106 ?_
          refine j_getN C 2 0 8 rfl rfl rfl wU_X2 (by decide) wFN_X5_307 rfl dX5_makeOrdered_109 ?_
          refine j_perm (pm_3_1 _ _ _) ?_
          refine j_callVi C (As := [.int (iI _), .int (iI _), .int (iI _), .int (iI _)]) (c_X0_add _ _ _ _ _ _ _ _ _ (by omega)) 4 nf_X0_add (jb := 0) rfl rfl wL_X5_86 wI_X0_add wSe_X0_X0_add wIn_X0 wC_X0_add rfl rfl (by decide) dX5_makeOrdered_112 (Nat.le_of_ble_eq_true rfl) ⟨Nat.le_of_ble_eq_true rfl, Nat.le_of_ble_eq_true rfl⟩ (fun x112 u112 h112 => ?_)
          refine j_perm (pr_3_1 _ _ _) ?_
          refine j_pop C dX5_makeOrdered_115 rfl ?_
          refine j_iconst C dX5_makeOrdered_116 ?_
          exact hR () dX5_makeOrdered_117 (by omega) (by rw [if_pos hye]) (by rw [if_pos hye]) (Nat.le_of_ble_eq_true rfl) (Nat.le_of_ble_eq_true rfl)
        · have hno : ¬ (O 4 < S 0 ∧ O 5 < S 0 ∧ O 4 ≠ O 5 ∧ S 1 < 40) := by
            first | (have gg := h72; rw [h72] at c75; split at c75 <;> omega) | (have gg := h38; rw [h38] at c41; split at c41 <;> omega) | (have gg := h28; rw [h28] at c31; split at c31 <;> omega) | (rw [h11] at c14; split at c14 <;> omega)
          have hw : S = if O 4 < S 0 ∧ O 5 < S 0 ∧ O 4 ≠ O 5 ∧ S 1 < 40 then addP S (O 4) (O 5) (O 6) (O 7) else S := (if_neg hno).symm
          refine j_iconst C dX5_makeOrdered_78 ?_
          exact hR () dX5_makeOrdered_79 (by omega) (by rw [if_neg hno]) (by rw [← hw]) (Nat.le_of_ble_eq_true rfl) (Nat.le_of_ble_eq_true rfl)
set_option maxHeartbeats 4000000 in
set_option maxRecDepth 100000 in
theorem c_X5_disputeOrdered (l : Launch) (D : va_G) (cA : Nat → ClassId) (q v : Nat) (b tb r m o d : Nat → Nat) (c : Int) (S : Int → Int) (i : Int) (hI : Inv S) (hi : 0 ≤ i ∧ i ≤ 99) : MI (U := Unit) l yX5_disputeOrdered cX5_disputeOrdered 2 (some .boolean) (rmN 24 0 0) D cA [.ref (q), .int (iI i)] [prO q v b tb r m o c, bk cA b S] (fun x _ => x = if i < S 1 ∧ 0 < am S i ∧ di S i = 0 then 1 else 0) (fun _ => [prO q v b tb r m o c, bk cA b (if i < S 1 ∧ 0 < am S i ∧ di S i = 0 then st S (9 + 8 * i) 1 else S)]) := by
  refine m_startZ pn_X5 rfl (List.forall_mem_cons.mpr ⟨rfl, List.forall_mem_cons.mpr ⟨rfl, fun _ h => absurd h List.not_mem_nil⟩⟩) (Nat.le_of_ble_eq_true rfl) ?_
  intro K C e1 e2 e3 hin hR
  subst e1 e2 e3
  have hN := hI.2.1
  have hQ := hI.1
  show J K 0 0 [prO q v b tb r m o c, bk (kC K) b S] [some (.ref (q)), some (.int (iI i))] 0 []
  refine j_aload_n C dX5_disputeOrdered_0 rfl ?_
  refine j_get C 0 0 0 rfl rfl rfl wU_X5 (by decide) wF_X5_12 rfl dX5_disputeOrdered_1 ?_
  refine j_iload_n C dX5_disputeOrdered_4 rfl ?_
  refine j_perm (pm_2_1 _ _) ?_
  refine j_callVi C (As := [.int (iI _)]) (c_X0_holds _ _ _ _ _ _ (by first | assumption | omega) (by first | assumption | omega)) 1 nf_X0_holds (jb := 0) rfl rfl wL_X5_90 wI_X0_holds wSe_X0_X0_holds wIn_X0 wC_X0_holds rfl rfl (by decide) dX5_disputeOrdered_5 (Nat.le_of_ble_eq_true rfl) ⟨Nat.le_of_ble_eq_true rfl, Nat.le_of_ble_eq_true rfl⟩ (fun x5 u5 h5 => ?_)
  refine j_perm (pr_2_1 _ _) ?_
  refine j_if_eq (tgt := 22) C dX5_disputeOrdered_8 (by decide) (by omega) (by omega) (fun c8 => ?_) (fun c8 => ?_)
  · have hno : ¬ (i < S 1 ∧ 0 < am S i ∧ di S i = 0) := by
      first | (have gg := h16; rw [h16] at c19; split at c19 <;> omega) | (rw [h5] at c8; split at c8 <;> omega)
    refine j_iconst C dX5_disputeOrdered_22 ?_
    exact hR () dX5_disputeOrdered_23 (by omega) (by rw [if_neg hno]) (by rw [if_neg hno]) (Nat.le_of_ble_eq_true rfl) (Nat.le_of_ble_eq_true rfl)
  · refine j_aload_n C dX5_disputeOrdered_11 rfl ?_
    refine j_get C 0 0 0 rfl rfl rfl wU_X5 (by decide) wF_X5_12 rfl dX5_disputeOrdered_12 ?_
    refine j_iload_n C dX5_disputeOrdered_15 rfl ?_
    refine j_perm (pm_2_1 _ _) ?_
    refine j_callVi C (As := [.int (iI _)]) (c_X0_canBeDisputed _ _ _ _ _ _ (by first | assumption | omega) (by first | assumption | omega)) 1 nf_X0_canBeDisputed (jb := 0) rfl rfl wL_X5_107 wI_X0_canBeDisputed wSe_X0_X0_canBeDisputed wIn_X0 wC_X0_canBeDisputed rfl rfl (by decide) dX5_disputeOrdered_16 (Nat.le_of_ble_eq_true rfl) ⟨Nat.le_of_ble_eq_true rfl, Nat.le_of_ble_eq_true rfl⟩ (fun x16 u16 h16 => ?_)
    refine j_perm (pr_2_1 _ _) ?_
    refine j_if_ne (tgt := 24) C dX5_disputeOrdered_19 (by decide) (by omega) (by omega) (fun c19 => ?_) (fun c19 => ?_)
    · have hye : i < S 1 ∧ 0 < am S i ∧ di S i = 0 := by
        rw [h16] at c19
        split at c19 <;> omega
      refine j_aload_n C dX5_disputeOrdered_24 rfl ?_
      refine j_get C 0 0 0 rfl rfl rfl wU_X5 (by decide) wF_X5_12 rfl dX5_disputeOrdered_25 ?_
      refine j_getN C 1 0 12 rfl rfl rfl wU_X0 (by decide) wFN_X5_116 rfl dX5_disputeOrdered_28 ?_
      refine j_iload_n C dX5_disputeOrdered_31 rfl ?_
      refine j_iconst C dX5_disputeOrdered_32 ?_
      refine j_zast_p1 C 8 rfl (bk_ast8 (by omega)) dX5_disputeOrdered_33 (by decide) (by omega) (by omega) (by omega) ?_
      refine j_iconst C dX5_disputeOrdered_34 ?_
      exact hR () dX5_disputeOrdered_35 (by omega) (by rw [if_pos hye]) (by rw [if_pos hye]) (Nat.le_of_ble_eq_true rfl) (Nat.le_of_ble_eq_true rfl)
    · have hno : ¬ (i < S 1 ∧ 0 < am S i ∧ di S i = 0) := by
        first | (have gg := h16; rw [h16] at c19; split at c19 <;> omega) | (rw [h5] at c8; split at c8 <;> omega)
      refine j_iconst C dX5_disputeOrdered_22 ?_
      exact hR () dX5_disputeOrdered_23 (by omega) (by rw [if_neg hno]) (by rw [if_neg hno]) (Nat.le_of_ble_eq_true rfl) (Nat.le_of_ble_eq_true rfl)
set_option maxHeartbeats 4000000 in
set_option maxRecDepth 100000 in
theorem c_X5_settleOrdered (l : Launch) (D : va_G) (cA : Nat → ClassId) (q v : Nat) (b tb r m o d : Nat → Nat) (c : Int) (S : Int → Int) (i : Int) (hI : Inv S) (hi : 0 ≤ i ∧ i ≤ 99) : MI (U := Unit) l yX5_settleOrdered cX5_settleOrdered 2 (some .boolean) (rmN 24 0 0) D cA [.ref (q), .int (iI i)] [prO q v b tb r m o c, bk cA b S] (fun x _ => x = if i < S 1 ∧ di S i ≠ 0 then 1 else 0) (fun _ => [prO q v b tb r m o c, bk cA b (if i < S 1 ∧ di S i ≠ 0 then st S (9 + 8 * i) 0 else S)]) := by
  refine m_startZ pn_X5 rfl (List.forall_mem_cons.mpr ⟨rfl, List.forall_mem_cons.mpr ⟨rfl, fun _ h => absurd h List.not_mem_nil⟩⟩) (Nat.le_of_ble_eq_true rfl) ?_
  intro K C e1 e2 e3 hin hR
  subst e1 e2 e3
  have hN := hI.2.1
  have hQ := hI.1
  show J K 0 0 [prO q v b tb r m o c, bk (kC K) b S] [some (.ref (q)), some (.int (iI i))] 0 []
  refine j_aload_n C dX5_settleOrdered_0 rfl ?_
  refine j_get C 0 0 0 rfl rfl rfl wU_X5 (by decide) wF_X5_12 rfl dX5_settleOrdered_1 ?_
  refine j_iload_n C dX5_settleOrdered_4 rfl ?_
  refine j_perm (pm_2_1 _ _) ?_
  refine j_callVi C (As := [.int (iI _)]) (c_X0_holds _ _ _ _ _ _ (by first | assumption | omega) (by first | assumption | omega)) 1 nf_X0_holds (jb := 0) rfl rfl wL_X5_90 wI_X0_holds wSe_X0_X0_holds wIn_X0 wC_X0_holds rfl rfl (by decide) dX5_settleOrdered_5 (Nat.le_of_ble_eq_true rfl) ⟨Nat.le_of_ble_eq_true rfl, Nat.le_of_ble_eq_true rfl⟩ (fun x5 u5 h5 => ?_)
  refine j_perm (pr_2_1 _ _) ?_
  refine j_if_eq (tgt := 23) C dX5_settleOrdered_8 (by decide) (by omega) (by omega) (fun c8 => ?_) (fun c8 => ?_)
  · have hno : ¬ (i < S 1 ∧ di S i ≠ 0) := by
      first | (have gg := c20; omega) | (rw [h5] at c8; split at c8 <;> omega)
    refine j_iconst C dX5_settleOrdered_23 ?_
    exact hR () dX5_settleOrdered_24 (by omega) (by rw [if_neg hno]) (by rw [if_neg hno]) (Nat.le_of_ble_eq_true rfl) (Nat.le_of_ble_eq_true rfl)
  · have hii : i < S 1 := by rw [h5] at c8; split at c8 <;> omega
    have f := hI.2.2 i hi.1 hii
    refine j_aload_n C dX5_settleOrdered_11 rfl ?_
    refine j_get C 0 0 0 rfl rfl rfl wU_X5 (by decide) wF_X5_12 rfl dX5_settleOrdered_12 ?_
    refine j_getN C 1 0 12 rfl rfl rfl wU_X0 (by decide) wFN_X5_116 rfl dX5_settleOrdered_15 ?_
    refine j_iload_n C dX5_settleOrdered_18 rfl ?_
    refine j_zald C 1 8 rfl rfl dX5_settleOrdered_19 (by decide) (by omega) (by omega) ?_
    refine j_if_ne (tgt := 25) C dX5_settleOrdered_20 (by decide) (by omega) (by omega) (fun c20 => ?_) (fun c20 => ?_)
    · have hye : i < S 1 ∧ di S i ≠ 0 := by omega
      refine j_aload_n C dX5_settleOrdered_25 rfl ?_
      refine j_get C 0 0 0 rfl rfl rfl wU_X5 (by decide) wF_X5_12 rfl dX5_settleOrdered_26 ?_
      refine j_getN C 1 0 12 rfl rfl rfl wU_X0 (by decide) wFN_X5_116 rfl dX5_settleOrdered_29 ?_
      refine j_iload_n C dX5_settleOrdered_32 rfl ?_
      refine j_iconst C dX5_settleOrdered_33 ?_
      refine j_zast_p1 C 8 rfl (bk_ast8 (by omega)) dX5_settleOrdered_34 (by decide) (by omega) (by omega) (by omega) ?_
      refine j_iconst C dX5_settleOrdered_35 ?_
      exact hR () dX5_settleOrdered_36 (by omega) (by rw [if_pos hye]) (by rw [if_pos hye]) (Nat.le_of_ble_eq_true rfl) (Nat.le_of_ble_eq_true rfl)
    · have hno : ¬ (i < S 1 ∧ di S i ≠ 0) := by
        first | (have gg := c20; omega) | (rw [h5] at c8; split at c8 <;> omega)
      refine j_iconst C dX5_settleOrdered_23 ?_
      exact hR () dX5_settleOrdered_24 (by omega) (by rw [if_neg hno]) (by rw [if_neg hno]) (Nat.le_of_ble_eq_true rfl) (Nat.le_of_ble_eq_true rfl)
set_option maxHeartbeats 4000000 in
set_option maxRecDepth 100000 in
theorem c_X5_carryOutOrder (l : Launch) (D : va_G) (cA : Nat → ClassId) (q v : Nat) (b tb r m o d : Nat → Nat) (c : Int) (z : Int) (X F Nx f S : Int → Int) (O : Int → Int) (hI : Inv S) (hO : OK3 O) : MI (U := (Int → Int) × (Int → Int) × (Int → Int) × (Int → Int) × Int) l yX5_carryOutOrder cX5_carryOutOrder 1 (some .boolean) (rmN 25 0 0) D cA [.ref (q)] [prO q v b tb r m o c, rgO r (d 0) z, dbO d, [(d 1, aJ (cA 0) 49 X)], [(d 2, aJ (cA 0) 49 F)], [(d 3, aJ (cA 0) 40 Nx)], [(r 1, aJ (cA 0) 2365 f)], bk cA b S, orO o O] (fun x _ => x = (exO S (O 3) (O 4) (O 5) (O 6) (O 7) (O 8)).1) (fun u => [prO q v b tb r m o c, rgO r (d 0) u.2.2.2.2, dbO d, [(d 1, aJ (cA 0) 49 u.1)], [(d 2, aJ (cA 0) 49 u.2.1)], [(d 3, aJ (cA 0) 40 u.2.2.1)], [(r 1, aJ (cA 0) 2365 u.2.2.2.1)], bk cA b (exO S (O 3) (O 4) (O 5) (O 6) (O 7) (O 8)).2, orO o O]) := by
  refine m_startZ pn_X5 rfl (List.forall_mem_cons.mpr ⟨rfl, fun _ h => absurd h List.not_mem_nil⟩) (Nat.le_of_ble_eq_true rfl) ?_
  intro K C e1 e2 e3 hin hR
  subst e1 e2 e3
  have hN := hI.2.1
  have hQ := hI.1
  obtain ⟨hO1, hO2, hO3⟩ := hO
  show J K 0 0 [prO q v b tb r m o c, rgO r (d 0) z, dbO d, [(d 1, aJ ((kC K) 0) 49 X)], [(d 2, aJ ((kC K) 0) 49 F)], [(d 3, aJ ((kC K) 0) 40 Nx)], [(r 1, aJ ((kC K) 0) 2365 f)], bk (kC K) b S, orO o O] [some (.ref (q))] 0 []
  refine j_aload_n C dX5_carryOutOrder_0 rfl ?_
  refine j_get C 0 0 4 rfl rfl rfl wU_X5 (by decide) wF_X5_36 rfl dX5_carryOutOrder_1 ?_
  refine j_getN C 8 0 4 rfl rfl rfl wU_X2 (by decide) wFN_X5_286 rfl dX5_carryOutOrder_4 ?_
  by_cases q7_97 : O 3 = 97
  · refine j_lookup (tgt := 116) (v := 97) C dX5_carryOutOrder_7 q7_97 (by decide) (by decide) (by decide) rfl (by decide) ?_
    refine j_aload_n C dX5_carryOutOrder_116 rfl ?_
    refine j_get C 0 0 2 rfl rfl rfl wU_X5 (by decide) wF_X5_22 rfl dX5_carryOutOrder_117 ?_
    refine j_aload_n C dX5_carryOutOrder_120 rfl ?_
    refine j_get C 0 0 0 rfl rfl rfl wU_X5 (by decide) wF_X5_12 rfl dX5_carryOutOrder_121 ?_
    refine j_perm (pm_9_1_2_3_4_5_6_7 _ _ _ _ _ _ _ _ _) ?_
    refine j_callVi C (As := [.ref _]) (c_X4_releaseAll _ _ _ _ _ _ _ _ _ _ _ _ (by first | assumption | omega)) 1 nf_X4_releaseAll (jb := 0) rfl rfl wL_X5_142 wI_X4_releaseAll wSe_X4_X4_releaseAll wIn_X4 wC_X4_releaseAll rfl rfl (by decide) dX5_carryOutOrder_124 (Nat.le_of_ble_eq_true rfl) ⟨Nat.le_of_ble_eq_true rfl, Nat.le_of_ble_eq_true rfl⟩ (fun x124 u124 h124 => ?_)
    refine j_perm (pr_9_1_2_3_4_5_6_7 _ _ _ _ _ _ _ _ _) ?_
    have eX : exO S (O 3) (O 4) (O 5) (O 6) (O 7) (O 8) = (1, (disA 49 S 0).1) := by unfold exO; rw [if_neg (by omega), if_neg (by omega), if_neg (by omega), if_neg (by omega), if_pos (by omega)]
    refine j_pop C dX5_carryOutOrder_127 rfl ?_
    refine j_iconst C dX5_carryOutOrder_128 ?_
    exact hR u124 dX5_carryOutOrder_129 (by omega) (by rw [eX]) (by rw [eX]) (Nat.le_of_ble_eq_true rfl) (Nat.le_of_ble_eq_true rfl)
  by_cases q7_98 : O 3 = 98
  · refine j_lookup (tgt := 85) (v := 98) C dX5_carryOutOrder_7 q7_98 (by decide) (by decide) (by decide) rfl (by decide) ?_
    refine j_aload_n C dX5_carryOutOrder_85 rfl ?_
    refine j_get C 0 0 2 rfl rfl rfl wU_X5 (by decide) wF_X5_22 rfl dX5_carryOutOrder_86 ?_
    refine j_aload_n C dX5_carryOutOrder_89 rfl ?_
    refine j_get C 0 0 0 rfl rfl rfl wU_X5 (by decide) wF_X5_12 rfl dX5_carryOutOrder_90 ?_
    refine j_perm (pm_9_1_2_3_4_5_6_7 _ _ _ _ _ _ _ _ _) ?_
    refine j_callVv C (As := [.ref _]) (c_X4_find _ _ _ _ _ _ _ _ _ _ _ _ (by first | assumption | omega)) 1 nf_X4_find (jb := 0) rfl rfl wL_X5_209 wI_X4_find wSe_X4_X4_find wIn_X4 wC_X4_find rfl rfl (by decide) dX5_carryOutOrder_93 (Nat.le_of_ble_eq_true rfl) ⟨Nat.le_of_ble_eq_true rfl, Nat.le_of_ble_eq_true rfl⟩ (fun u93 h93 => ?_)
    refine j_perm (pr_9_1_2_3_4_5_6_7 _ _ _ _ _ _ _ _ _) ?_
    obtain h93 := h93
    refine j_aload_n C dX5_carryOutOrder_96 rfl ?_
    refine j_get C 0 0 2 rfl rfl rfl wU_X5 (by decide) wF_X5_22 rfl dX5_carryOutOrder_97 ?_
    refine j_aload_n C dX5_carryOutOrder_100 rfl ?_
    refine j_get C 0 0 0 rfl rfl rfl wU_X5 (by decide) wF_X5_12 rfl dX5_carryOutOrder_101 ?_
    refine j_perm (pm_9_1_2_3_4_5_6_7 _ _ _ _ _ _ _ _ _) ?_
    refine j_callVi C (As := [.ref _]) (c_X4_releaseBest _ _ _ _ _ _ _ _ _ _ _ _ (by first | assumption | omega) (by exact h93)) 1 nf_X4_releaseBest (jb := 0) rfl rfl wL_X5_138 wI_X4_releaseBest wSe_X4_X4_releaseBest wIn_X4 wC_X4_releaseBest rfl rfl (by decide) dX5_carryOutOrder_104 (Nat.le_of_ble_eq_true rfl) ⟨Nat.le_of_ble_eq_true rfl, Nat.le_of_ble_eq_true rfl⟩ (fun x104 u104 h104 => ?_)
    refine j_perm (pr_9_1_2_3_4_5_6_7 _ _ _ _ _ _ _ _ _) ?_
    have eX : exO S (O 3) (O 4) (O 5) (O 6) (O 7) (O 8) = if best S = -1 then (0, S) else (1, disB S) := by unfold exO; rw [if_neg (by omega), if_neg (by omega), if_neg (by omega), if_pos (by omega)]
    have hbv : bestV S = 0 ∧ best S = -1 ∨ (0 < bestV S ∧ bestV S < 2147483648) ∧ best S ≠ -1 := by
      rcases best_val S with w | w
      · exact Or.inl ⟨w.2, w.1⟩
      · right
        have hr := RS_get (S := S) w.1 (best_rng S).2
        have h1 := sav_pos hI hr
        have h2 : sav S ((RS S).getD (best S).toNat []) ≤ 2520000 := (savP_bd hI hr.1.2.1 (Int.le_of_lt (room_bd hI hr).1) (room_bd hI hr).2).2
        rw [w.2]
        omega
    refine j_if_le (tgt := 114) C dX5_carryOutOrder_107 (by decide) (by omega) (by omega) (fun c107 => ?_) (fun c107 => ?_)
    · refine j_iconst C dX5_carryOutOrder_114 ?_
      exact hR (u93.1, u93.2.1, u93.2.2.1, u93.2.2.2, ((RS S).length : Int)) dX5_carryOutOrder_115 (by omega) (by rw [eX]; first | (rw [if_neg (by omega)]; done) | (rw [if_pos (by omega)]; done)) (by rw [eX]; split <;> rfl) (Nat.le_of_ble_eq_true rfl) (Nat.le_of_ble_eq_true rfl)
    · refine j_iconst C dX5_carryOutOrder_110 ?_
      refine j_goto (tgt := 115) C dX5_carryOutOrder_111 (by decide) ?_
      exact hR (u93.1, u93.2.1, u93.2.2.1, u93.2.2.2, ((RS S).length : Int)) dX5_carryOutOrder_115 (by omega) (by rw [eX]; first | (rw [if_neg (by omega)]; done) | (rw [if_pos (by omega)]; done)) (by rw [eX]; split <;> rfl) (Nat.le_of_ble_eq_true rfl) (Nat.le_of_ble_eq_true rfl)
  by_cases q7_112 : O 3 = 112
  · refine j_lookup (tgt := 56) (v := 112) C dX5_carryOutOrder_7 q7_112 (by decide) (by decide) (by decide) rfl (by decide) ?_
    refine j_aload_n C dX5_carryOutOrder_56 rfl ?_
    refine j_perm (pm_9_0_7_8 _ _ _ _ _ _ _ _ _) ?_
    refine j_callVi C (As := []) (c_X5_makeOrdered _ _ _ _ _ _ _ _ _ _ (d) _ _ _ (by first | assumption | omega) (by exact (hO1 (by omega)).1) (by exact (hO1 (by omega)).2.1) (by exact (hO1 (by omega)).2.2.1) (by exact (hO1 (by omega)).2.2.2)) 0 nf_X5_makeOrdered (jb := 0) rfl rfl wL_X5_289 wI_X5_makeOrdered wSe_X5_X5_makeOrdered wIn_X5 wC_X5_makeOrdered rfl rfl (by decide) dX5_carryOutOrder_57 (Nat.le_of_ble_eq_true rfl) ⟨Nat.le_of_ble_eq_true rfl, Nat.le_of_ble_eq_true rfl⟩ (fun x57 u57 h57 => ?_)
    refine j_perm (pr_9_0_7_8 _ _ _ _ _ _ _ _ _) ?_
    have eX : exO S (O 3) (O 4) (O 5) (O 6) (O 7) (O 8) = if O 4 < S 0 ∧ O 5 < S 0 ∧ O 4 ≠ O 5 ∧ S 1 < 40 then (1, addP S (O 4) (O 5) (O 6) (O 7)) else (0, S) := if_pos (by omega)
    exact hR (X, F, Nx, f, z) dX5_carryOutOrder_60 (by omega) (by rw [h57, eX]; split <;> rfl) (by rw [eX]; split <;> rfl) (Nat.le_of_ble_eq_true rfl) (Nat.le_of_ble_eq_true rfl)
  by_cases q7_120 : O 3 = 120
  · refine j_lookup (tgt := 61) (v := 120) C dX5_carryOutOrder_7 q7_120 (by decide) (by decide) (by decide) rfl (by decide) ?_
    refine j_aload_n C dX5_carryOutOrder_61 rfl ?_
    refine j_aload_n C dX5_carryOutOrder_62 rfl ?_
    refine j_get C 0 0 4 rfl rfl rfl wU_X5 (by decide) wF_X5_36 rfl dX5_carryOutOrder_63 ?_
    refine j_getN C 8 0 9 rfl rfl rfl wU_X2 (by decide) wFN_X5_292 rfl dX5_carryOutOrder_66 ?_
    refine j_perm (pm_9_0_7 _ _ _ _ _ _ _ _ _) ?_
    refine j_callVi C (As := [.int (iI _)]) (c_X5_disputeOrdered _ _ _ _ _ _ _ _ _ _ (d) _ _ _ (by first | assumption | omega) (by exact hO2 (by omega))) 1 nf_X5_disputeOrdered (jb := 0) rfl rfl wL_X5_295 wI_X5_disputeOrdered wSe_X5_X5_disputeOrdered wIn_X5 wC_X5_disputeOrdered rfl rfl (by decide) dX5_carryOutOrder_69 (Nat.le_of_ble_eq_true rfl) ⟨Nat.le_of_ble_eq_true rfl, Nat.le_of_ble_eq_true rfl⟩ (fun x69 u69 h69 => ?_)
    refine j_perm (pr_9_0_7 _ _ _ _ _ _ _ _ _) ?_
    have eX : exO S (O 3) (O 4) (O 5) (O 6) (O 7) (O 8) = if O 8 < S 1 ∧ 0 < am S (O 8) ∧ di S (O 8) = 0 then (1, st S (9 + 8 * O 8) 1) else (0, S) := by unfold exO; rw [if_neg (by omega), if_pos (by omega)]
    exact hR (X, F, Nx, f, z) dX5_carryOutOrder_72 (by omega) (by rw [h69, eX]; split <;> rfl) (by rw [eX]; split <;> rfl) (Nat.le_of_ble_eq_true rfl) (Nat.le_of_ble_eq_true rfl)
  by_cases q7_121 : O 3 = 121
  · refine j_lookup (tgt := 73) (v := 121) C dX5_carryOutOrder_7 q7_121 (by decide) (by decide) (by decide) rfl (by decide) ?_
    refine j_aload_n C dX5_carryOutOrder_73 rfl ?_
    refine j_aload_n C dX5_carryOutOrder_74 rfl ?_
    refine j_get C 0 0 4 rfl rfl rfl wU_X5 (by decide) wF_X5_36 rfl dX5_carryOutOrder_75 ?_
    refine j_getN C 8 0 9 rfl rfl rfl wU_X2 (by decide) wFN_X5_292 rfl dX5_carryOutOrder_78 ?_
    refine j_perm (pm_9_0_7 _ _ _ _ _ _ _ _ _) ?_
    refine j_callVi C (As := [.int (iI _)]) (c_X5_settleOrdered _ _ _ _ _ _ _ _ _ _ (d) _ _ _ (by first | assumption | omega) (by exact hO2 (by omega))) 1 nf_X5_settleOrdered (jb := 0) rfl rfl wL_X5_298 wI_X5_settleOrdered wSe_X5_X5_settleOrdered wIn_X5 wC_X5_settleOrdered rfl rfl (by decide) dX5_carryOutOrder_81 (Nat.le_of_ble_eq_true rfl) ⟨Nat.le_of_ble_eq_true rfl, Nat.le_of_ble_eq_true rfl⟩ (fun x81 u81 h81 => ?_)
    refine j_perm (pr_9_0_7 _ _ _ _ _ _ _ _ _) ?_
    have eX : exO S (O 3) (O 4) (O 5) (O 6) (O 7) (O 8) = if O 8 < S 1 ∧ di S (O 8) ≠ 0 then (1, st S (9 + 8 * O 8) 0) else (0, S) := by unfold exO; rw [if_neg (by omega), if_neg (by omega), if_pos (by omega)]
    exact hR (X, F, Nx, f, z) dX5_carryOutOrder_84 (by omega) (by rw [h81, eX]; split <;> rfl) (by rw [eX]; split <;> rfl) (Nat.le_of_ble_eq_true rfl) (Nat.le_of_ble_eq_true rfl)
  refine j_lookupD (tgt := 130) C dX5_carryOutOrder_7 (by omega) (by omega) (by decide) (by show (if (97 : Int) = _ then (109 : Int) else (if (98 : Int) = _ then (78 : Int) else (if (112 : Int) = _ then (49 : Int) else (if (120 : Int) = _ then (54 : Int) else (if (121 : Int) = _ then (66 : Int) else (123 : Int)))))) = _; omega) (by decide) ?_
  refine j_iconst C dX5_carryOutOrder_130 ?_
  exact hR (X, F, Nx, f, z) dX5_carryOutOrder_131 (by omega) (by (have eX : exO S (O 3) (O 4) (O 5) (O 6) (O 7) (O 8) = (0, S) := (by unfold exO; rw [if_neg (by omega), if_neg (by omega), if_neg (by omega), if_neg (by omega), if_neg (by omega)])); rw [eX]) (by rw [show exO S (O 3) (O 4) (O 5) (O 6) (O 7) (O 8) = (0, S) by unfold exO; rw [if_neg (by omega), if_neg (by omega), if_neg (by omega), if_neg (by omega), if_neg (by omega)]]) (Nat.le_of_ble_eq_true rfl) (Nat.le_of_ble_eq_true rfl)
set_option maxHeartbeats 4000000 in
set_option maxRecDepth 100000 in
theorem c_X5_carryOut (l : Launch) (D : va_G) (cA : Nat → ClassId) (q v : Nat) (b tb r m o d : Nat → Nat) (c : Int) (L : List ((Nat → Nat) × (Int → Int))) (z : Int) (X F Nx f S O t : Int → Int) (hI : Inv S) (hz : Inz S) (hc : 0 ≤ c ∧ c ≤ 4 ∧ c ≤ (L.length : Int) ∧ L.length ≤ 4) (hb : TX t (O 0)) : MI (U := ((Int → Int) × (Int → Int) × (Int → Int) × (Int → Int) × Int) × List ((Nat → Nat) × (Int → Int)) × Int × (Int → Int)) l yX5_carryOut cX5_carryOut 3 (some .int) (rmN 26 9 333) D cA [.ref (q)] [prO q v b tb r m o c, svB cA v L, rgO r (d 0) z, dbO d, [(d 1, aJ (cA 0) 49 X)], [(d 2, aJ (cA 0) 49 F)], [(d 3, aJ (cA 0) 40 Nx)], [(r 1, aJ (cA 0) 2365 f)], bk cA b S, orO o O, [(o 1, aJ (cA 0) 100 t)]] (fun x u => x = (cRes t (O 0) S).1 ∧ u.2.2.2 0 = O 0 ∧ ((syn t (O 0) 100 0 ≠ -1 ∧ u.2.1 = L ∧ u.2.2.1 = c) ∨ (syn t (O 0) 100 0 = -1 ∧ (∃ (k : Nat → Nat) (T : Int → Int), u.2.1 = svNx c L (k, cpS T S)) ∧ u.2.2.1 = if c < 4 then c + 1 else 4))) (fun u => [prO q v b tb r m o u.2.2.1, svB cA v u.2.1, rgO r (d 0) u.1.2.2.2.2, dbO d, [(d 1, aJ (cA 0) 49 u.1.1)], [(d 2, aJ (cA 0) 49 u.1.2.1)], [(d 3, aJ (cA 0) 40 u.1.2.2.1)], [(r 1, aJ (cA 0) 2365 u.1.2.2.2.1)], bk cA b (cRes t (O 0) S).2, orO o u.2.2.2, [(o 1, aJ (cA 0) 100 t)]]) := by
  refine m_startI pn_X5 rfl (List.forall_mem_cons.mpr ⟨rfl, fun _ h => absurd h List.not_mem_nil⟩) (Nat.le_of_ble_eq_true rfl) ?_
  intro K C e1 e2 e3 hin hR
  subst e1 e2 e3
  have hN := hI.2.1
  have hQ := hI.1
  have hsb := syn_bd hb 100 0 (Int.le_refl _)
  show J K 0 0 [prO q v b tb r m o c, svB (kC K) v L, rgO r (d 0) z, dbO d, [(d 1, aJ ((kC K) 0) 49 X)], [(d 2, aJ ((kC K) 0) 49 F)], [(d 3, aJ ((kC K) 0) 40 Nx)], [(r 1, aJ ((kC K) 0) 2365 f)], bk (kC K) b S, orO o O, [(o 1, aJ ((kC K) 0) 100 t)]] [some (.ref (q)), none, none] 0 []
  refine j_aload_n C dX5_carryOut_0 rfl ?_
  refine j_get C 0 0 4 rfl rfl rfl wU_X5 (by decide) wF_X5_36 rfl dX5_carryOut_1 ?_
  refine j_perm (pm_11_9_10 _ _ _ _ _ _ _ _ _ _ _) ?_
  refine j_callVi C (As := []) (c_X2_syntaxError _ _ _ _ _ _ (by first | assumption | omega)) 0 nf_X2_syntaxError (jb := 0) rfl rfl wL_X5_250 wI_X2_syntaxError wSe_X2_X2_syntaxError wIn_X2 wC_X2_syntaxError rfl rfl (by decide) dX5_carryOut_4 (Nat.le_of_ble_eq_true rfl) ⟨Nat.le_of_ble_eq_true rfl, Nat.le_of_ble_eq_true rfl⟩ (fun x4 u4 h4 => ?_)
  refine j_perm (pr_11_9_10 _ _ _ _ _ _ _ _ _ _ _) ?_
  obtain ⟨h4s, h40⟩ := h4
  subst h4s
  refine j_istn_1 C dX5_carryOut_7 rfl ?_
  refine j_iload_n C dX5_carryOut_8 rfl ?_
  refine j_iconst C dX5_carryOut_9 ?_
  refine j_icmp_eq (tgt := 18) C dX5_carryOut_10 (by decide) (by omega) (by omega) (by omega) (by omega) (fun c10 => ?_) (fun c10 => ?_)
  · refine j_aload_n C dX5_carryOut_18 rfl ?_
    refine j_perm (pm_11_0_1_8 _ _ _ _ _ _ _ _ _ _ _) ?_
    refine j_callVv C (As := []) (c_X5_save _ _ _ _ _ _ _ _ _ _ (d) _ _ _ (by first | assumption | omega) (by first | assumption | omega)) 0 nf_X5_save (jb := 0) rfl rfl wL_X5_51 wI_X5_save wSe_X5_X5_save wIn_X5 wC_X5_save rfl rfl (by decide) dX5_carryOut_19 (Nat.le_of_ble_eq_true rfl) ⟨Nat.le_of_ble_eq_true rfl, Nat.le_of_ble_eq_true rfl⟩ (fun u19 h19 => ?_)
    refine j_perm (pr_11_0_1_8 _ _ _ _ _ _ _ _ _ _ _) ?_
    refine j_aload_n C dX5_carryOut_22 rfl ?_
    refine j_get C 0 0 4 rfl rfl rfl wU_X5 (by decide) wF_X5_36 rfl dX5_carryOut_23 ?_
    refine j_perm (pm_11_9 _ _ _ _ _ _ _ _ _ _ _) ?_
    refine j_callVv C (As := []) (c_X2_rewind _ _ _ _ _ ) 0 nf_X2_rewind (jb := 0) rfl rfl wL_X5_253 wI_X2_rewind wSe_X2_X2_rewind wIn_X2 wC_X2_rewind rfl rfl (by decide) dX5_carryOut_26 (Nat.le_of_ble_eq_true rfl) ⟨Nat.le_of_ble_eq_true rfl, Nat.le_of_ble_eq_true rfl⟩ (fun u26 h26 => ?_)
    refine j_perm (pr_11_9 _ _ _ _ _ _ _ _ _ _ _) ?_
    refine j_iconst C dX5_carryOut_29 ?_
    refine j_istn_2 C dX5_carryOut_30 rfl ?_
    have L31 : ∀ (fuel : Nat) (k z1 : Int) (X1 F1 N1 f1 S1 Q : Int → Int) (hk : 0 ≤ k ∧ k ≤ 100) (hI1 : Inv S1) (hQb : OB t Q) (hQ0 : Q 0 = O 0) (hrun : run t (O 0) (100 - k).toNat (Q 1) S1 k = cRes t (O 0) S) (hf31 : (100 - k).toNat < fuel), J K 9 333 [prO q v b tb r m o (if c < 4 then c + 1 else 4), svB (kC K) v u19, rgO r (d 0) z1, dbO d, [(d 1, aJ ((kC K) 0) 49 X1)], [(d 2, aJ ((kC K) 0) 49 F1)], [(d 3, aJ ((kC K) 0) 40 N1)], [(r 1, aJ ((kC K) 0) 2365 f1)], bk (kC K) b S1, orO o Q, [(o 1, aJ ((kC K) 0) 100 t)]] [some (.ref (q)), some (.int (iI (syn t (O 0) 100 0))), some (.int (iI k))] 31 [] := by
      intro fuel
      induction fuel with
      | zero => intro k z1 X1 F1 N1 f1 S1 Q hk hI1 hQb hQ0 hrun hf31; exact absurd hf31 (Nat.not_lt_zero _)
      | succ fuel ih31 =>
        intro k z1 X1 F1 N1 f1 S1 Q hk hI1 hQb hQ0 hrun hf31
        refine j_iload_n C dX5_carryOut_31 rfl ?_
        refine j_bipush C dX5_carryOut_32 (by decide) ?_
        refine j_icmp_ge (tgt := 60) C dX5_carryOut_34 (by decide) (by omega) (by omega) (by omega) (by omega) (fun c34 => ?_) (fun c34 => ?_)
        · refine j_iload_n C dX5_carryOut_60 rfl ?_
          first
          | (have gg : x48 = 0 := c51
             have hfin : cRes t (O 0) S = (k, (exO S1 (u41 3) (u41 4) (u41 5) (u41 6) (u41 7) (u41 8)).2) := by
               rw [hQ0] at hex
               rw [← hrun, show (100 - k).toNat = (100 - (k + 1)).toNat + 1 by omega, run, if_neg (by omega), ← hex.2.1, if_pos (by omega)]
             have hu0 : u41 0 = O 0 := hex.2.2.2.2.2.1.trans hQ0
             rw [show (exO S1 (u41 3) (u41 4) (u41 5) (u41 6) (u41 7) (u41 8)).2 = (cRes t (O 0) S).2 by rw [hfin]]
             have hk1 : k = (cRes t (O 0) S).1 := by rw [hfin]
             exact hR ((_, _, _, _, _), u19, (if c < 4 then c + 1 else 4), _) dX5_carryOut_61 ⟨hk1, hu0, Or.inr ⟨by omega, h19, rfl⟩⟩ rfl (Nat.le_of_ble_eq_true rfl) (Nat.le_of_ble_eq_true rfl))
          | (have gg : x41 = 0 := c44
             rw [gg] at h41
             have hre := RD_e h41
             rw [hQ0] at hre
             have hfin : cRes t (O 0) S = (k, S1) := by rw [← hrun]; exact run_e hre.1
             rw [show S1 = (cRes t (O 0) S).2 by rw [hfin]]
             have hk1 : k = (cRes t (O 0) S).1 := by rw [hfin]
             exact hR ((_, _, _, _, _), u19, (if c < 4 then c + 1 else 4), _) dX5_carryOut_61 ⟨hk1, hre.2, Or.inr ⟨by omega, h19, rfl⟩⟩ rfl (Nat.le_of_ble_eq_true rfl) (Nat.le_of_ble_eq_true rfl))
          | (have hfin : cRes t (O 0) S = (k, S1) := by rw [← hrun, show (100 - k).toNat = 0 by omega]; rfl
             rw [show S1 = (cRes t (O 0) S).2 by rw [hfin]]
             have hk1 : k = (cRes t (O 0) S).1 := by rw [hfin]
             exact hR ((_, _, _, _, _), u19, (if c < 4 then c + 1 else 4), _) dX5_carryOut_61 ⟨hk1, hQ0, Or.inr ⟨by omega, h19, rfl⟩⟩ rfl (Nat.le_of_ble_eq_true rfl) (Nat.le_of_ble_eq_true rfl))
        · refine j_aload_n C dX5_carryOut_37 rfl ?_
          refine j_get C 0 0 4 rfl rfl rfl wU_X5 (by decide) wF_X5_36 rfl dX5_carryOut_38 ?_
          refine j_perm (pm_11_9_10 _ _ _ _ _ _ _ _ _ _ _) ?_
          refine j_callVi C (As := []) (c_X2_readNext _ _ _ _ _ _ (by exact hQb)) 0 nf_X2_readNext (jb := 0) rfl rfl wL_X5_256 wI_X2_readNext wSe_X2_X2_readNext wIn_X2 wC_X2_readNext rfl rfl (by decide) dX5_carryOut_41 (Nat.le_of_ble_eq_true rfl) ⟨Nat.le_of_ble_eq_true rfl, Nat.le_of_ble_eq_true rfl⟩ (fun x41 u41 h41 => ?_)
          refine j_perm (pr_11_9_10 _ _ _ _ _ _ _ _ _ _ _) ?_
          have h41b := RD_01 h41
          refine j_if_eq (tgt := 60) C dX5_carryOut_44 (by decide) (by omega) (by omega) (fun c44 => ?_) (fun c44 => ?_)
          · refine j_iload_n C dX5_carryOut_60 rfl ?_
            first
            | (have gg : x48 = 0 := c51
               have hfin : cRes t (O 0) S = (k, (exO S1 (u41 3) (u41 4) (u41 5) (u41 6) (u41 7) (u41 8)).2) := by
                 rw [hQ0] at hex
                 rw [← hrun, show (100 - k).toNat = (100 - (k + 1)).toNat + 1 by omega, run, if_neg (by omega), ← hex.2.1, if_pos (by omega)]
               have hu0 : u41 0 = O 0 := hex.2.2.2.2.2.1.trans hQ0
               rw [show (exO S1 (u41 3) (u41 4) (u41 5) (u41 6) (u41 7) (u41 8)).2 = (cRes t (O 0) S).2 by rw [hfin]]
               have hk1 : k = (cRes t (O 0) S).1 := by rw [hfin]
               exact hR ((_, _, _, _, _), u19, (if c < 4 then c + 1 else 4), _) dX5_carryOut_61 ⟨hk1, hu0, Or.inr ⟨by omega, h19, rfl⟩⟩ rfl (Nat.le_of_ble_eq_true rfl) (Nat.le_of_ble_eq_true rfl))
            | (have gg : x41 = 0 := c44
               rw [gg] at h41
               have hre := RD_e h41
               rw [hQ0] at hre
               have hfin : cRes t (O 0) S = (k, S1) := by rw [← hrun]; exact run_e hre.1
               rw [show S1 = (cRes t (O 0) S).2 by rw [hfin]]
               have hk1 : k = (cRes t (O 0) S).1 := by rw [hfin]
               exact hR ((_, _, _, _, _), u19, (if c < 4 then c + 1 else 4), _) dX5_carryOut_61 ⟨hk1, hre.2, Or.inr ⟨by omega, h19, rfl⟩⟩ rfl (Nat.le_of_ble_eq_true rfl) (Nat.le_of_ble_eq_true rfl))
            | (have hfin : cRes t (O 0) S = (k, S1) := by rw [← hrun, show (100 - k).toNat = 0 by omega]; rfl
               rw [show S1 = (cRes t (O 0) S).2 by rw [hfin]]
               have hk1 : k = (cRes t (O 0) S).1 := by rw [hfin]
               exact hR ((_, _, _, _, _), u19, (if c < 4 then c + 1 else 4), _) dX5_carryOut_61 ⟨hk1, hQ0, Or.inr ⟨by omega, h19, rfl⟩⟩ rfl (Nat.le_of_ble_eq_true rfl) (Nat.le_of_ble_eq_true rfl))
          · have hrd : RD t Q 1 u41 := by rcases h41b with w | w; (omega); (rw [w] at h41; exact h41)
            refine j_aload_n C dX5_carryOut_47 rfl ?_
            refine j_perm (pm_11_0_2_3_4_5_6_7_8_9 _ _ _ _ _ _ _ _ _ _ _) ?_
            refine j_callVi C (As := []) (c_X5_carryOutOrder _ _ _ _ _ _ _ _ _ _ (d) _ _ _ _ _ _ _ _ (by exact hI1) (by exact (RD_ex (S := S1) hrd).1)) 0 nf_X5_carryOutOrder (jb := 0) rfl rfl wL_X5_259 wI_X5_carryOutOrder wSe_X5_X5_carryOutOrder wIn_X5 wC_X5_carryOutOrder rfl rfl (by decide) dX5_carryOut_48 (Nat.le_of_ble_eq_true rfl) ⟨Nat.le_of_ble_eq_true rfl, Nat.le_of_ble_eq_true rfl⟩ (fun x48 u48 h48 => ?_)
            refine j_perm (pr_11_0_2_3_4_5_6_7_8_9 _ _ _ _ _ _ _ _ _ _ _) ?_
            have hex := RD_ex (S := S1) hrd
            have hei := exO_Inv hI1 hex.1.1 hex.1.2.1
            refine j_if_eq (tgt := 60) C dX5_carryOut_51 (by decide) (by omega) (by omega) (fun c51 => ?_) (fun c51 => ?_)
            · refine j_iload_n C dX5_carryOut_60 rfl ?_
              first
              | (have gg : x48 = 0 := c51
                 have hfin : cRes t (O 0) S = (k, (exO S1 (u41 3) (u41 4) (u41 5) (u41 6) (u41 7) (u41 8)).2) := by
                   rw [hQ0] at hex
                   rw [← hrun, show (100 - k).toNat = (100 - (k + 1)).toNat + 1 by omega, run, if_neg (by omega), ← hex.2.1, if_pos (by omega)]
                 have hu0 : u41 0 = O 0 := hex.2.2.2.2.2.1.trans hQ0
                 rw [show (exO S1 (u41 3) (u41 4) (u41 5) (u41 6) (u41 7) (u41 8)).2 = (cRes t (O 0) S).2 by rw [hfin]]
                 have hk1 : k = (cRes t (O 0) S).1 := by rw [hfin]
                 exact hR ((_, _, _, _, _), u19, (if c < 4 then c + 1 else 4), _) dX5_carryOut_61 ⟨hk1, hu0, Or.inr ⟨by omega, h19, rfl⟩⟩ rfl (Nat.le_of_ble_eq_true rfl) (Nat.le_of_ble_eq_true rfl))
              | (have gg : x41 = 0 := c44
                 rw [gg] at h41
                 have hre := RD_e h41
                 rw [hQ0] at hre
                 have hfin : cRes t (O 0) S = (k, S1) := by rw [← hrun]; exact run_e hre.1
                 rw [show S1 = (cRes t (O 0) S).2 by rw [hfin]]
                 have hk1 : k = (cRes t (O 0) S).1 := by rw [hfin]
                 exact hR ((_, _, _, _, _), u19, (if c < 4 then c + 1 else 4), _) dX5_carryOut_61 ⟨hk1, hre.2, Or.inr ⟨by omega, h19, rfl⟩⟩ rfl (Nat.le_of_ble_eq_true rfl) (Nat.le_of_ble_eq_true rfl))
              | (have hfin : cRes t (O 0) S = (k, S1) := by rw [← hrun, show (100 - k).toNat = 0 by omega]; rfl
                 rw [show S1 = (cRes t (O 0) S).2 by rw [hfin]]
                 have hk1 : k = (cRes t (O 0) S).1 := by rw [hfin]
                 exact hR ((_, _, _, _, _), u19, (if c < 4 then c + 1 else 4), _) dX5_carryOut_61 ⟨hk1, hQ0, Or.inr ⟨by omega, h19, rfl⟩⟩ rfl (Nat.le_of_ble_eq_true rfl) (Nat.le_of_ble_eq_true rfl))
            · refine j_iinc_2 C dX5_carryOut_54 rfl ?_
              refine j_goto (tgt := 31) C dX5_carryOut_57 (by decide) ?_
              exact ih31 (k + 1) _ _ _ _ _ ((exO S1 (u41 3) (u41 4) (u41 5) (u41 6) (u41 7) (u41 8)).2) (u41) (by omega) (by exact hei.1) (by exact hex.2.2.2.2.2.2) (by exact hex.2.2.2.2.2.1.trans hQ0) (by rw [← hrun, show (100 - k).toNat = (100 - (k + 1)).toNat + 1 by omega, run]; rw [hQ0] at hex; rw [if_neg (by omega), hex.2.2.2.2.1, ← hex.2.1, if_neg (by omega)]) (by omega)
    exact L31 _ (0) _ _ _ _ _ (S) (st (st u4 1 0) 2 (-1)) (by omega) (by exact hI) (by exact ⟨by show TX t (u4 0); rw [h40]; exact hb, by show (0 : Int) ≤ 0 ∧ (0 : Int) ≤ u4 0; rw [h40]; have := hb.1; omega⟩) (by exact h40) (by unfold cRes; rw [if_neg (by omega)]; rfl) (Nat.lt_succ_self _)
  · refine j_bipush C dX5_carryOut_13 (by decide) ?_
    refine j_iload_n C dX5_carryOut_15 rfl ?_
    refine j_isub C dX5_carryOut_16 ?_
    refine hR ((X, F, Nx, f, z), L, c, u4) dX5_carryOut_17 ?_ (by rw [show (cRes t (O 0) S).2 = S by unfold cRes; rw [if_pos c10]]) (Nat.le_of_ble_eq_true rfl) (Nat.le_of_ble_eq_true rfl)
    exact ⟨by unfold cRes; rw [if_pos c10], h40, Or.inl ⟨c10, rfl, rfl⟩⟩
