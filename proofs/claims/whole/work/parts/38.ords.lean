/-! the orders: one order, all of them -/
theorem DG_ob {t O u : Int → Int} {lo hi x : Int} (h : DG t O lo hi x u) (hb : OB t O) (h0 : 0 ≤ lo) : OB t u := by
  obtain ⟨⟨k0, -⟩, h⟩ := h
  have g := hb.2
  refine ⟨k0 ▸ hb.1, ?_⟩
  rcases h with h | h
  · have := pk_inn (show pk t (O 0) (O 1) ≠ -1 by omega)
    omega
  · omega
theorem SG_ob {t O u : Int → Int} {w x : Int} (h : SG t O w x u) (hb : OB t O) (h0 : 0 ≤ w) : OB t u := by
  obtain ⟨⟨k0, -⟩, h⟩ := h
  have g := hb.2
  refine ⟨k0 ▸ hb.1, ?_⟩
  rcases h with h | h
  · have := pk_inn (show pk t (O 0) (O 1) ≠ -1 by omega)
    omega
  · omega
theorem NG_ob {t O u : Int → Int} {d : Nat} {lo hi x : Int} (h : NG t O d lo hi x u) (hb : OB t O) : OB t u := by
  obtain ⟨⟨k0, -⟩, h1, h⟩ := h
  have g := hb.2
  have := fK_n (t := t) (n := O 0) d (O 1) g.1 g.2
  have := fK_bd t (O 0) d (O 1)
  exact ⟨k0 ▸ hb.1, by omega⟩
theorem OB_st {t O : Int → Int} {i v : Int} (hb : OB t O) (hi : 2 ≤ i) : OB t (st O i v) := by
  have e0 : st O i v 0 = O 0 := st_n (by omega)
  have e1 : st O i v 1 = O 1 := st_n (by omega)
  unfold OB
  rw [e0, e1]
  exact hb
/-- what the reading of an order leaves -/
def PRd (t O : Int → Int) (a x : Int) (u : Int → Int) : Prop := u 0 = O 0 ∧ u 3 = O 3 ∧ u 8 = O 8 ∧ OB t u ∧ ((x = 1 ∧ prE t (O 0) a = -1 ∧ u 1 = a + 4 + fK t (O 0) 4 (a + 4) + 3 ∧ u 2 = O 2 ∧ u 4 = pk t (O 0) (a + 1) - 48 ∧ u 5 = pk t (O 0) (a + 2) - 48 ∧ u 6 = fV t (O 0) 4 (a + 4) 0 ∧ u 7 = pk t (O 0) (a + 4 + fK t (O 0) 4 (a + 4) + 1) - 48 ∧ 0 ≤ u 4 ∧ u 4 ≤ 6 ∧ 0 ≤ u 5 ∧ u 5 ≤ 6 ∧ 1 ≤ u 6 ∧ u 6 ≤ 1000 ∧ 1 ≤ u 7 ∧ u 7 ≤ 9) ∨ (x = 0 ∧ prE t (O 0) a ≠ -1 ∧ u 2 = prE t (O 0) a))
def RD (t O : Int → Int) (x : Int) (u : Int → Int) : Prop := (O 0 ≤ O 1 ∧ x = 0 ∧ u = O) ∨ (O 1 < O 0 ∧ u 0 = O 0 ∧ OB t u ∧ u 3 = pk t (O 0) (O 1) ∧ ((x = 1 ∧ ordE t (O 0) (O 1) = -1 ∧ u 1 = ordN t (O 0) (O 1) ∧ u 2 = O 2 ∧ (pk t (O 0) (O 1) = 112 → u 4 = pk t (O 0) (O 1 + 1) - 48 ∧ u 5 = pk t (O 0) (O 1 + 2) - 48 ∧ u 6 = fV t (O 0) 4 (O 1 + 4) 0 ∧ u 7 = pk t (O 0) (O 1 + 4 + fK t (O 0) 4 (O 1 + 4) + 1) - 48 ∧ 0 ≤ u 4 ∧ u 4 ≤ 6 ∧ 0 ≤ u 5 ∧ u 5 ≤ 6 ∧ 1 ≤ u 6 ∧ u 6 ≤ 1000 ∧ 1 ≤ u 7 ∧ u 7 ≤ 9) ∧ (pk t (O 0) (O 1) = 120 ∨ pk t (O 0) (O 1) = 121 → u 8 = fV t (O 0) 2 (O 1 + 1) 0 ∧ 0 ≤ u 8 ∧ u 8 ≤ 99)) ∨ (x = 0 ∧ ordE t (O 0) (O 1) ≠ -1 ∧ u 2 = ordE t (O 0) (O 1))))
set_option maxHeartbeats 4000000 in
set_option maxRecDepth 100000 in
theorem c_X2_readPromise (l : Launch) (D : va_G) (cA : Nat → ClassId) (o : Nat → Nat) (O t : Int → Int) (a : Int) (hb : OB t O) (ha : O 1 = a + 1 ∧ 0 ≤ a) : MI (U := Int → Int) l yX2_readPromise cX2_readPromise 1 (some .boolean) (rmN 3 0 0) D cA [.ref (o 0)] [orO o O, [(o 1, aJ (cA 0) 100 t)]] (fun x u => PRd t O a x u) (fun u => [orO o u, [(o 1, aJ (cA 0) 100 t)]]) := by
  refine m_startZ pn_X2 rfl (List.forall_mem_cons.mpr ⟨rfl, fun _ h => absurd h List.not_mem_nil⟩) (Nat.le_of_ble_eq_true rfl) ?_
  intro K C e1 e2 e3 hin hR
  subst e1 e2 e3
  have hb0 := hb.1.1
  have hb1 := hb.2
  have hk4 := fK_bd t (O 0) 4 (a + 4)
  show J K 0 0 [orO o O, [(o 1, aJ ((kC K) 0) 100 t)]] [some (.ref (o 0))] 0 []
  refine j_aload_n C dX2_readPromise_0 rfl ?_
  refine j_aload_n C dX2_readPromise_1 rfl ?_
  refine j_iconst C dX2_readPromise_2 ?_
  refine j_bipush C dX2_readPromise_3 (by decide) ?_
  refine j_perm (pm_2_0_1 _ _) ?_
  refine j_callVi C (As := [.int (iI _), .int (iI _)]) (c_X2_readDigit _ _ _ _ _ _ _ _ (by first | assumption | omega) (by first | assumption | omega) (by first | assumption | omega)) 2 nf_X2_readDigit (jb := 0) rfl rfl wL_X2_56 wI_X2_readDigit wSe_X2_X2_readDigit wIn_X2 wC_X2_readDigit rfl rfl (by decide) dX2_readPromise_5 (Nat.le_of_ble_eq_true rfl) ⟨Nat.le_of_ble_eq_true rfl, Nat.le_of_ble_eq_true rfl⟩ (fun x5 u5 h5 => ?_)
  refine j_perm (pr_2_0_1 _ _) ?_
  have o5 := DG_ob h5 hb (by decide)
  have k5 := h5.1.1
  have k5_3 := h5.1.2 3 (by decide)
  have k5_4 := h5.1.2 4 (by decide)
  have k5_5 := h5.1.2 5 (by decide)
  have k5_6 := h5.1.2 6 (by decide)
  have k5_7 := h5.1.2 7 (by decide)
  have k5_8 := h5.1.2 8 (by decide)
  have g5 := h5.2
  rw [ha.1] at g5
  have eu5_0 : st u5 4 x5 0 = u5 0 := st_n (by decide)
  have eu5_1 : st u5 4 x5 1 = u5 1 := st_n (by decide)
  have eu5_2 : st u5 4 x5 2 = u5 2 := st_n (by decide)
  have eu5_3 : st u5 4 x5 3 = u5 3 := st_n (by decide)
  have eu5_5 : st u5 4 x5 5 = u5 5 := st_n (by decide)
  have eu5_6 : st u5 4 x5 6 = u5 6 := st_n (by decide)
  have eu5_7 : st u5 4 x5 7 = u5 7 := st_n (by decide)
  have eu5_8 : st u5 4 x5 8 = u5 8 := st_n (by decide)
  have eu5_4 : st u5 4 x5 4 = x5 := st_s _ _ _
  have b5 := OB_st (i := 4) (v := x5) o5 (by decide)
  refine j_put_p0 C 0 5 rfl orO_put4 rfl wU_X2 tyX2_ok nmX2 (by decide) wF_X2_60 rfl rfl rfl (Nat.le_of_ble_eq_true rfl) dX2_readPromise_8 ?_
  refine j_aload_n C dX2_readPromise_11 rfl ?_
  refine j_get C 0 0 5 rfl rfl rfl wU_X2 (by decide) wF_X2_60 rfl dX2_readPromise_12 ?_
  refine j_iconst C dX2_readPromise_15 ?_
  refine j_icmp_ne (tgt := 21) C dX2_readPromise_16 (by decide) (by omega) (by omega) (by omega) (by omega) (fun c16 => ?_) (fun c16 => ?_)
  · have s5 : u5 1 = a + 2 := by omega
    refine j_aload_n C dX2_readPromise_21 rfl ?_
    refine j_aload_n C dX2_readPromise_22 rfl ?_
    refine j_iconst C dX2_readPromise_23 ?_
    refine j_bipush C dX2_readPromise_24 (by decide) ?_
    refine j_perm (pm_2_0_1 _ _) ?_
    refine j_callVi C (As := [.int (iI _), .int (iI _)]) (c_X2_readDigit _ _ _ _ _ _ _ _ (by first | assumption | omega) (by first | assumption | omega) (by first | assumption | omega)) 2 nf_X2_readDigit (jb := 0) rfl rfl wL_X2_56 wI_X2_readDigit wSe_X2_X2_readDigit wIn_X2 wC_X2_readDigit rfl rfl (by decide) dX2_readPromise_26 (Nat.le_of_ble_eq_true rfl) ⟨Nat.le_of_ble_eq_true rfl, Nat.le_of_ble_eq_true rfl⟩ (fun x26 u26 h26 => ?_)
    refine j_perm (pr_2_0_1 _ _) ?_
    have o26 := DG_ob h26 b5 (by decide)
    have k26 := h26.1.1
    have k26_3 := h26.1.2 3 (by decide)
    have k26_4 := h26.1.2 4 (by decide)
    have k26_5 := h26.1.2 5 (by decide)
    have k26_6 := h26.1.2 6 (by decide)
    have k26_7 := h26.1.2 7 (by decide)
    have k26_8 := h26.1.2 8 (by decide)
    have g26 := h26.2
    rw [eu5_0, eu5_1, k5, s5] at g26
    have eu26_0 : st u26 5 x26 0 = u26 0 := st_n (by decide)
    have eu26_1 : st u26 5 x26 1 = u26 1 := st_n (by decide)
    have eu26_2 : st u26 5 x26 2 = u26 2 := st_n (by decide)
    have eu26_3 : st u26 5 x26 3 = u26 3 := st_n (by decide)
    have eu26_4 : st u26 5 x26 4 = u26 4 := st_n (by decide)
    have eu26_6 : st u26 5 x26 6 = u26 6 := st_n (by decide)
    have eu26_7 : st u26 5 x26 7 = u26 7 := st_n (by decide)
    have eu26_8 : st u26 5 x26 8 = u26 8 := st_n (by decide)
    have eu26_5 : st u26 5 x26 5 = x26 := st_s _ _ _
    have b26 := OB_st (i := 5) (v := x26) o26 (by decide)
    refine j_put_p0 C 0 6 rfl orO_put5 rfl wU_X2 tyX2_ok nmX2 (by decide) wF_X2_63 rfl rfl rfl (Nat.le_of_ble_eq_true rfl) dX2_readPromise_29 ?_
    refine j_aload_n C dX2_readPromise_32 rfl ?_
    refine j_get C 0 0 6 rfl rfl rfl wU_X2 (by decide) wF_X2_63 rfl dX2_readPromise_33 ?_
    refine j_iconst C dX2_readPromise_36 ?_
    refine j_icmp_eq (tgt := 49) C dX2_readPromise_37 (by decide) (by omega) (by omega) (by omega) (by omega) (fun c37 => ?_) (fun c37 => ?_)
    · refine j_iconst C dX2_readPromise_49 ?_
      refine hR _ dX2_readPromise_50 (by omega) ?_ rfl (Nat.le_of_ble_eq_true rfl) (Nat.le_of_ble_eq_true rfl)
      first | (have gg := h43; have eE : prE t (O 0) a = a + 3 := (by unfold prE; rw [if_neg (by omega), if_neg (by omega), if_pos (by omega)]); exact ⟨by omega, by omega, by omega, by assumption, Or.inr ⟨rfl, by omega, by omega⟩⟩) | (have eE : prE t (O 0) a = a + 2 := (by unfold prE; rw [if_neg (by omega), if_pos (by omega)]); exact ⟨by omega, by omega, by omega, by assumption, Or.inr ⟨rfl, by omega, by omega⟩⟩)
    · have s26 : u26 1 = a + 3 := by omega
      have z26 : u26 0 = O 0 := by omega
      refine j_aload_n C dX2_readPromise_40 rfl ?_
      refine j_bipush C dX2_readPromise_41 (by decide) ?_
      refine j_perm (pm_2_0_1 _ _) ?_
      refine j_callVi C (As := [.int (iI _)]) (c_X2_readSign _ _ _ _ _ _ _ (by first | assumption | omega) (by first | assumption | omega)) 1 nf_X2_readSign (jb := 0) rfl rfl wL_X2_49 wI_X2_readSign wSe_X2_X2_readSign wIn_X2 wC_X2_readSign rfl rfl (by decide) dX2_readPromise_43 (Nat.le_of_ble_eq_true rfl) ⟨Nat.le_of_ble_eq_true rfl, Nat.le_of_ble_eq_true rfl⟩ (fun x43 u43 h43 => ?_)
      refine j_perm (pr_2_0_1 _ _) ?_
      have o43 := SG_ob h43 b26 (by decide)
      have k43 := h43.1.1
      have k43_3 := h43.1.2 3 (by decide)
      have k43_4 := h43.1.2 4 (by decide)
      have k43_5 := h43.1.2 5 (by decide)
      have k43_6 := h43.1.2 6 (by decide)
      have k43_7 := h43.1.2 7 (by decide)
      have k43_8 := h43.1.2 8 (by decide)
      have g43 := h43.2
      rw [eu26_0, eu26_1, z26, s26] at g43
      refine j_if_ne (tgt := 51) C dX2_readPromise_46 (by decide) (by omega) (by omega) (fun c46 => ?_) (fun c46 => ?_)
      · have s43 : u43 1 = a + 4 := by omega
        have z43 : u43 0 = O 0 := by omega
        refine j_aload_n C dX2_readPromise_51 rfl ?_
        refine j_aload_n C dX2_readPromise_52 rfl ?_
        refine j_iconst C dX2_readPromise_53 ?_
        refine j_iconst C dX2_readPromise_54 ?_
        refine j_sipush C dX2_readPromise_55 (by decide) ?_
        refine j_perm (pm_2_0_1 _ _) ?_
        refine j_callVi C (As := [.int (iI _), .int (iI _), .int (iI _)]) (c_X2_readNumber _ _ _ _ _ _ _ _ _ (by first | assumption | omega) (by first | assumption | omega) (by first | assumption | omega) (by first | assumption | omega)) 3 nf_X2_readNumber (jb := 0) rfl rfl wL_X2_42 wI_X2_readNumber wSe_X2_X2_readNumber wIn_X2 wC_X2_readNumber rfl rfl (by decide) dX2_readPromise_58 (Nat.le_of_ble_eq_true rfl) ⟨Nat.le_of_ble_eq_true rfl, Nat.le_of_ble_eq_true rfl⟩ (fun x58 u58 h58 => ?_)
        refine j_perm (pr_2_0_1 _ _) ?_
        have o58 := NG_ob h58 o43
        have k58 := h58.1.1
        have k58_3 := h58.1.2 3 (by decide)
        have k58_4 := h58.1.2 4 (by decide)
        have k58_5 := h58.1.2 5 (by decide)
        have k58_6 := h58.1.2 6 (by decide)
        have k58_7 := h58.1.2 7 (by decide)
        have k58_8 := h58.1.2 8 (by decide)
        have g58 := h58.2
        rw [z43, s43, show (4 : Int).toNat = 4 from rfl] at g58
        have eu58_0 : st u58 6 x58 0 = u58 0 := st_n (by decide)
        have eu58_1 : st u58 6 x58 1 = u58 1 := st_n (by decide)
        have eu58_2 : st u58 6 x58 2 = u58 2 := st_n (by decide)
        have eu58_3 : st u58 6 x58 3 = u58 3 := st_n (by decide)
        have eu58_4 : st u58 6 x58 4 = u58 4 := st_n (by decide)
        have eu58_5 : st u58 6 x58 5 = u58 5 := st_n (by decide)
        have eu58_7 : st u58 6 x58 7 = u58 7 := st_n (by decide)
        have eu58_8 : st u58 6 x58 8 = u58 8 := st_n (by decide)
        have eu58_6 : st u58 6 x58 6 = x58 := st_s _ _ _
        have b58 := OB_st (i := 6) (v := x58) o58 (by decide)
        refine j_put_p0 C 0 7 rfl orO_put6 rfl wU_X2 tyX2_ok nmX2 (by decide) wF_X2_66 rfl rfl rfl (Nat.le_of_ble_eq_true rfl) dX2_readPromise_61 ?_
        refine j_aload_n C dX2_readPromise_64 rfl ?_
        refine j_get C 0 0 7 rfl rfl rfl wU_X2 (by decide) wF_X2_66 rfl dX2_readPromise_65 ?_
        refine j_iconst C dX2_readPromise_68 ?_
        refine j_icmp_eq (tgt := 81) C dX2_readPromise_69 (by decide) (by omega) (by omega) (by omega) (by omega) (fun c69 => ?_) (fun c69 => ?_)
        · refine j_iconst C dX2_readPromise_81 ?_
          refine hR _ dX2_readPromise_82 (by omega) ?_ rfl (Nat.le_of_ble_eq_true rfl) (Nat.le_of_ble_eq_true rfl)
          first | (have gg := h75; have eE : prE t (O 0) a = a + 4 + fK t (O 0) 4 (a + 4) := (by unfold prE; rw [if_neg (by omega), if_neg (by omega), if_neg (by omega), if_neg (by omega)]; unfold prE2; rw [if_pos (by omega)]); exact ⟨by omega, by omega, by omega, by assumption, Or.inr ⟨rfl, by omega, by omega⟩⟩) | (have eE : prE t (O 0) a = fE t (O 0) 4 1 1000 (a + 4) := (by unfold prE; rw [if_neg (by omega), if_neg (by omega), if_neg (by omega), if_pos (by omega)]); exact ⟨by omega, by omega, by omega, by assumption, Or.inr ⟨rfl, by omega, by omega⟩⟩)
        · have s58 : u58 1 = a + 4 + fK t (O 0) 4 (a + 4) := by omega
          have z58 : u58 0 = O 0 := by omega
          refine j_aload_n C dX2_readPromise_72 rfl ?_
          refine j_bipush C dX2_readPromise_73 (by decide) ?_
          refine j_perm (pm_2_0_1 _ _) ?_
          refine j_callVi C (As := [.int (iI _)]) (c_X2_readSign _ _ _ _ _ _ _ (by first | assumption | omega) (by first | assumption | omega)) 1 nf_X2_readSign (jb := 0) rfl rfl wL_X2_49 wI_X2_readSign wSe_X2_X2_readSign wIn_X2 wC_X2_readSign rfl rfl (by decide) dX2_readPromise_75 (Nat.le_of_ble_eq_true rfl) ⟨Nat.le_of_ble_eq_true rfl, Nat.le_of_ble_eq_true rfl⟩ (fun x75 u75 h75 => ?_)
          refine j_perm (pr_2_0_1 _ _) ?_
          have o75 := SG_ob h75 b58 (by decide)
          have k75 := h75.1.1
          have k75_3 := h75.1.2 3 (by decide)
          have k75_4 := h75.1.2 4 (by decide)
          have k75_5 := h75.1.2 5 (by decide)
          have k75_6 := h75.1.2 6 (by decide)
          have k75_7 := h75.1.2 7 (by decide)
          have k75_8 := h75.1.2 8 (by decide)
          have g75 := h75.2
          rw [eu58_0, eu58_1, z58, s58] at g75
          refine j_if_ne (tgt := 83) C dX2_readPromise_78 (by decide) (by omega) (by omega) (fun c78 => ?_) (fun c78 => ?_)
          · have s75 : u75 1 = a + 4 + fK t (O 0) 4 (a + 4) + 1 := by omega
            have z75 : u75 0 = O 0 := by omega
            refine j_aload_n C dX2_readPromise_83 rfl ?_
            refine j_aload_n C dX2_readPromise_84 rfl ?_
            refine j_iconst C dX2_readPromise_85 ?_
            refine j_bipush C dX2_readPromise_86 (by decide) ?_
            refine j_perm (pm_2_0_1 _ _) ?_
            refine j_callVi C (As := [.int (iI _), .int (iI _)]) (c_X2_readDigit _ _ _ _ _ _ _ _ (by first | assumption | omega) (by first | assumption | omega) (by first | assumption | omega)) 2 nf_X2_readDigit (jb := 0) rfl rfl wL_X2_56 wI_X2_readDigit wSe_X2_X2_readDigit wIn_X2 wC_X2_readDigit rfl rfl (by decide) dX2_readPromise_88 (Nat.le_of_ble_eq_true rfl) ⟨Nat.le_of_ble_eq_true rfl, Nat.le_of_ble_eq_true rfl⟩ (fun x88 u88 h88 => ?_)
            refine j_perm (pr_2_0_1 _ _) ?_
            have o88 := DG_ob h88 o75 (by decide)
            have k88 := h88.1.1
            have k88_3 := h88.1.2 3 (by decide)
            have k88_4 := h88.1.2 4 (by decide)
            have k88_5 := h88.1.2 5 (by decide)
            have k88_6 := h88.1.2 6 (by decide)
            have k88_7 := h88.1.2 7 (by decide)
            have k88_8 := h88.1.2 8 (by decide)
            have g88 := h88.2
            rw [z75, s75] at g88
            have eu88_0 : st u88 7 x88 0 = u88 0 := st_n (by decide)
            have eu88_1 : st u88 7 x88 1 = u88 1 := st_n (by decide)
            have eu88_2 : st u88 7 x88 2 = u88 2 := st_n (by decide)
            have eu88_3 : st u88 7 x88 3 = u88 3 := st_n (by decide)
            have eu88_4 : st u88 7 x88 4 = u88 4 := st_n (by decide)
            have eu88_5 : st u88 7 x88 5 = u88 5 := st_n (by decide)
            have eu88_6 : st u88 7 x88 6 = u88 6 := st_n (by decide)
            have eu88_8 : st u88 7 x88 8 = u88 8 := st_n (by decide)
            have eu88_7 : st u88 7 x88 7 = x88 := st_s _ _ _
            have b88 := OB_st (i := 7) (v := x88) o88 (by decide)
            refine j_put_p0 C 0 8 rfl orO_put7 rfl wU_X2 tyX2_ok nmX2 (by decide) wF_X2_69 rfl rfl rfl (Nat.le_of_ble_eq_true rfl) dX2_readPromise_91 ?_
            refine j_aload_n C dX2_readPromise_94 rfl ?_
            refine j_get C 0 0 8 rfl rfl rfl wU_X2 (by decide) wF_X2_69 rfl dX2_readPromise_95 ?_
            refine j_iconst C dX2_readPromise_98 ?_
            refine j_icmp_eq (tgt := 115) C dX2_readPromise_99 (by decide) (by omega) (by omega) (by omega) (by omega) (fun c99 => ?_) (fun c99 => ?_)
            · refine j_iconst C dX2_readPromise_115 ?_
              refine hR _ dX2_readPromise_116 (by omega) ?_ rfl (Nat.le_of_ble_eq_true rfl) (Nat.le_of_ble_eq_true rfl)
              first | (have gg : x105 = 0 := c108; have eE : prE t (O 0) a = a + 4 + fK t (O 0) 4 (a + 4) + 2 := (by unfold prE; rw [if_neg (by omega), if_neg (by omega), if_neg (by omega), if_neg (by omega)]; unfold prE2; rw [if_neg (by omega), if_neg (by omega), if_pos (by omega)]); exact ⟨by omega, by omega, by omega, by assumption, Or.inr ⟨rfl, by omega, by omega⟩⟩) | (have gg : x105 ≠ 0 := c108; have eE : prE t (O 0) a = -1 := (by unfold prE; rw [if_neg (by omega), if_neg (by omega), if_neg (by omega), if_neg (by omega)]; unfold prE2; rw [if_neg (by omega), if_neg (by omega), if_neg (by omega)]); exact ⟨by omega, by omega, by omega, by assumption, Or.inl ⟨rfl, eE, by omega, by omega, by omega, by omega, by omega, by omega, by omega, by omega, by omega, by omega, by omega, by omega, by omega, by omega⟩⟩) | (have eE : prE t (O 0) a = a + 4 + fK t (O 0) 4 (a + 4) + 1 := (by unfold prE; rw [if_neg (by omega), if_neg (by omega), if_neg (by omega), if_neg (by omega)]; unfold prE2; rw [if_neg (by omega), if_pos (by omega)]); exact ⟨by omega, by omega, by omega, by assumption, Or.inr ⟨rfl, by omega, by omega⟩⟩)
            · have s88 : u88 1 = a + 4 + fK t (O 0) 4 (a + 4) + 2 := by omega
              have z88 : u88 0 = O 0 := by omega
              refine j_aload_n C dX2_readPromise_102 rfl ?_
              refine j_bipush C dX2_readPromise_103 (by decide) ?_
              refine j_perm (pm_2_0_1 _ _) ?_
              refine j_callVi C (As := [.int (iI _)]) (c_X2_readSign _ _ _ _ _ _ _ (by first | assumption | omega) (by first | assumption | omega)) 1 nf_X2_readSign (jb := 0) rfl rfl wL_X2_49 wI_X2_readSign wSe_X2_X2_readSign wIn_X2 wC_X2_readSign rfl rfl (by decide) dX2_readPromise_105 (Nat.le_of_ble_eq_true rfl) ⟨Nat.le_of_ble_eq_true rfl, Nat.le_of_ble_eq_true rfl⟩ (fun x105 u105 h105 => ?_)
              refine j_perm (pr_2_0_1 _ _) ?_
              have o105 := SG_ob h105 b88 (by decide)
              have k105 := h105.1.1
              have k105_3 := h105.1.2 3 (by decide)
              have k105_4 := h105.1.2 4 (by decide)
              have k105_5 := h105.1.2 5 (by decide)
              have k105_6 := h105.1.2 6 (by decide)
              have k105_7 := h105.1.2 7 (by decide)
              have k105_8 := h105.1.2 8 (by decide)
              have g105 := h105.2
              rw [eu88_0, eu88_1, z88, s88] at g105
              refine j_if_eq (tgt := 115) C dX2_readPromise_108 (by decide) (by omega) (by omega) (fun c108 => ?_) (fun c108 => ?_)
              · refine j_iconst C dX2_readPromise_115 ?_
                refine hR _ dX2_readPromise_116 (by omega) ?_ rfl (Nat.le_of_ble_eq_true rfl) (Nat.le_of_ble_eq_true rfl)
                first | (have gg : x105 = 0 := c108; have eE : prE t (O 0) a = a + 4 + fK t (O 0) 4 (a + 4) + 2 := (by unfold prE; rw [if_neg (by omega), if_neg (by omega), if_neg (by omega), if_neg (by omega)]; unfold prE2; rw [if_neg (by omega), if_neg (by omega), if_pos (by omega)]); exact ⟨by omega, by omega, by omega, by assumption, Or.inr ⟨rfl, by omega, by omega⟩⟩) | (have gg : x105 ≠ 0 := c108; have eE : prE t (O 0) a = -1 := (by unfold prE; rw [if_neg (by omega), if_neg (by omega), if_neg (by omega), if_neg (by omega)]; unfold prE2; rw [if_neg (by omega), if_neg (by omega), if_neg (by omega)]); exact ⟨by omega, by omega, by omega, by assumption, Or.inl ⟨rfl, eE, by omega, by omega, by omega, by omega, by omega, by omega, by omega, by omega, by omega, by omega, by omega, by omega, by omega, by omega⟩⟩) | (have eE : prE t (O 0) a = a + 4 + fK t (O 0) 4 (a + 4) + 1 := (by unfold prE; rw [if_neg (by omega), if_neg (by omega), if_neg (by omega), if_neg (by omega)]; unfold prE2; rw [if_neg (by omega), if_pos (by omega)]); exact ⟨by omega, by omega, by omega, by assumption, Or.inr ⟨rfl, by omega, by omega⟩⟩)
              · refine j_iconst C dX2_readPromise_111 ?_
                refine j_goto (tgt := 116) C dX2_readPromise_112 (by decide) ?_
                refine hR _ dX2_readPromise_116 (by omega) ?_ rfl (Nat.le_of_ble_eq_true rfl) (Nat.le_of_ble_eq_true rfl)
                first | (have gg : x105 = 0 := c108; have eE : prE t (O 0) a = a + 4 + fK t (O 0) 4 (a + 4) + 2 := (by unfold prE; rw [if_neg (by omega), if_neg (by omega), if_neg (by omega), if_neg (by omega)]; unfold prE2; rw [if_neg (by omega), if_neg (by omega), if_pos (by omega)]); exact ⟨by omega, by omega, by omega, by assumption, Or.inr ⟨rfl, by omega, by omega⟩⟩) | (have gg : x105 ≠ 0 := c108; have eE : prE t (O 0) a = -1 := (by unfold prE; rw [if_neg (by omega), if_neg (by omega), if_neg (by omega), if_neg (by omega)]; unfold prE2; rw [if_neg (by omega), if_neg (by omega), if_neg (by omega)]); exact ⟨by omega, by omega, by omega, by assumption, Or.inl ⟨rfl, eE, by omega, by omega, by omega, by omega, by omega, by omega, by omega, by omega, by omega, by omega, by omega, by omega, by omega, by omega⟩⟩) | (have eE : prE t (O 0) a = a + 4 + fK t (O 0) 4 (a + 4) + 1 := (by unfold prE; rw [if_neg (by omega), if_neg (by omega), if_neg (by omega), if_neg (by omega)]; unfold prE2; rw [if_neg (by omega), if_pos (by omega)]); exact ⟨by omega, by omega, by omega, by assumption, Or.inr ⟨rfl, by omega, by omega⟩⟩)
          · refine j_iconst C dX2_readPromise_81 ?_
            refine hR _ dX2_readPromise_82 (by omega) ?_ rfl (Nat.le_of_ble_eq_true rfl) (Nat.le_of_ble_eq_true rfl)
            first | (have gg := h75; have eE : prE t (O 0) a = a + 4 + fK t (O 0) 4 (a + 4) := (by unfold prE; rw [if_neg (by omega), if_neg (by omega), if_neg (by omega), if_neg (by omega)]; unfold prE2; rw [if_pos (by omega)]); exact ⟨by omega, by omega, by omega, by assumption, Or.inr ⟨rfl, by omega, by omega⟩⟩) | (have eE : prE t (O 0) a = fE t (O 0) 4 1 1000 (a + 4) := (by unfold prE; rw [if_neg (by omega), if_neg (by omega), if_neg (by omega), if_pos (by omega)]); exact ⟨by omega, by omega, by omega, by assumption, Or.inr ⟨rfl, by omega, by omega⟩⟩)
      · refine j_iconst C dX2_readPromise_49 ?_
        refine hR _ dX2_readPromise_50 (by omega) ?_ rfl (Nat.le_of_ble_eq_true rfl) (Nat.le_of_ble_eq_true rfl)
        first | (have gg := h43; have eE : prE t (O 0) a = a + 3 := (by unfold prE; rw [if_neg (by omega), if_neg (by omega), if_pos (by omega)]); exact ⟨by omega, by omega, by omega, by assumption, Or.inr ⟨rfl, by omega, by omega⟩⟩) | (have eE : prE t (O 0) a = a + 2 := (by unfold prE; rw [if_neg (by omega), if_pos (by omega)]); exact ⟨by omega, by omega, by omega, by assumption, Or.inr ⟨rfl, by omega, by omega⟩⟩)
  · refine j_iconst C dX2_readPromise_19 ?_
    refine hR _ dX2_readPromise_20 (by omega) ?_ rfl (Nat.le_of_ble_eq_true rfl) (Nat.le_of_ble_eq_true rfl)
    (have eE : prE t (O 0) a = a + 1 := (by unfold prE; rw [if_pos (by omega)]); exact ⟨by omega, by omega, by omega, by assumption, Or.inr ⟨rfl, by omega, by omega⟩⟩)
