/-! the orders: the next one; the text's error -/
theorem PRd_RD {t O Q u : Int → Int} {a x : Int} (hO : O 1 < O 0) (hQ : Q 0 = O 0 ∧ Q 2 = O 2) (ha : a = O 1) (hs : u 3 = pk t (O 0) (O 1)) (hc : pk t (O 0) (O 1) = 112) (h : PRd t Q a x u) : RD t O x u := by
  subst ha
  obtain ⟨h0, -, -, hb, h⟩ := h
  rw [hQ.1] at h0 h
  refine Or.inr ⟨hO, h0, hb, hs, ?_⟩
  have e1 : ordE t (O 0) (O 1) = prE t (O 0) (O 1) := if_pos hc
  have e2 : ordN t (O 0) (O 1) = O 1 + 4 + fK t (O 0) 4 (O 1 + 4) + 3 := if_pos hc
  rcases h with h | h
  · left
    refine ⟨h.1, e1.trans h.2.1, h.2.2.1.trans e2.symm, h.2.2.2.1.trans hQ.2, fun _ => h.2.2.2.2, fun q => ?_⟩
    rw [hc] at q
    exact absurd q (by decide)
  · right
    rw [e1]
    exact h
set_option maxHeartbeats 4000000 in
set_option maxRecDepth 100000 in
theorem c_X2_readNext (l : Launch) (D : va_G) (cA : Nat → ClassId) (o : Nat → Nat) (O t : Int → Int) (hb : OB t O) : MI (U := Int → Int) l yX2_readNext cX2_readNext 1 (some .boolean) (rmN 4 0 0) D cA [.ref (o 0)] [orO o O, [(o 1, aJ (cA 0) 100 t)]] (fun x u => RD t O x u) (fun u => [orO o u, [(o 1, aJ (cA 0) 100 t)]]) := by
  refine m_startZ pn_X2 rfl (List.forall_mem_cons.mpr ⟨rfl, fun _ h => absurd h List.not_mem_nil⟩) (Nat.le_of_ble_eq_true rfl) ?_
  intro K C e1 e2 e3 hin hR
  subst e1 e2 e3
  have hb0 := hb.1.1
  have hb1 := hb.2
  have hpb := pk_bd hb.1 (O 1)
  show J K 0 0 [orO o O, [(o 1, aJ ((kC K) 0) 100 t)]] [some (.ref (o 0))] 0 []
  refine j_aload_n C dX2_readNext_0 rfl ?_
  refine j_get C 0 0 2 rfl rfl rfl wU_X2 (by decide) wF_X2_19 rfl dX2_readNext_1 ?_
  refine j_aload_n C dX2_readNext_4 rfl ?_
  refine j_get C 0 0 1 rfl rfl rfl wU_X2 (by decide) wF_X2_15 rfl dX2_readNext_5 ?_
  refine j_icmp_lt (tgt := 13) C dX2_readNext_8 (by decide) (by omega) (by omega) (by omega) (by omega) (fun c8 => ?_) (fun c8 => ?_)
  · refine j_aload_n C dX2_readNext_13 rfl ?_
    refine j_aload_n C dX2_readNext_14 rfl ?_
    refine j_perm (pm_2_0_1 _ _) ?_
    refine j_callVi C (As := []) (c_X2_peek _ _ _ _ _ _ (by first | assumption | omega)) 0 nf_X2_peek (jb := 0) rfl rfl wL_X2_32 wI_X2_peek wSe_X2_X2_peek wIn_X2 wC_X2_peek rfl rfl (by decide) dX2_readNext_15 (Nat.le_of_ble_eq_true rfl) ⟨Nat.le_of_ble_eq_true rfl, Nat.le_of_ble_eq_true rfl⟩ (fun x15 u15 h15 => ?_)
    refine j_perm (pr_2_0_1 _ _) ?_
    have e3_0 : st O 3 x15 0 = O 0 := rfl
    have e3_1 : st O 3 x15 1 = O 1 := rfl
    have e3_3 : st O 3 x15 3 = x15 := rfl
    refine j_put_p0 C 0 4 rfl orO_put3 rfl wU_X2 tyX2_ok nmX2 (by decide) wF_X2_36 rfl rfl rfl (Nat.le_of_ble_eq_true rfl) dX2_readNext_18 ?_
    refine j_aload_n C dX2_readNext_21 rfl ?_
    refine j_get C 0 0 4 rfl rfl rfl wU_X2 (by decide) wF_X2_36 rfl dX2_readNext_22 ?_
    by_cases q25_97 : x15 = 97
    · refine j_lookup (tgt := 136) (v := 97) C dX2_readNext_25 q25_97 (by decide) (by decide) (by decide) rfl (by decide) ?_
      have q_0 : st (st O 3 x15) 1 (st O 3 x15 1 + 1) 0 = O 0 := rfl
      have q_1 : st (st O 3 x15) 1 (st O 3 x15 1 + 1) 1 = O 1 + 1 := rfl
      have q_2 : st (st O 3 x15) 1 (st O 3 x15 1 + 1) 2 = O 2 := rfl
      have q_3 : st (st O 3 x15) 1 (st O 3 x15 1 + 1) 3 = x15 := rfl
      have bq : OB t (st (st O 3 x15) 1 (st O 3 x15 1 + 1)) := ⟨hb.1, by show 0 ≤ O 1 + 1 ∧ O 1 + 1 ≤ O 0; omega⟩
      refine j_aload_n C dX2_readNext_136 rfl ?_
      refine j_dup C dX2_readNext_137 rfl ?_
      refine j_get C 0 0 2 rfl rfl rfl wU_X2 (by decide) wF_X2_19 rfl dX2_readNext_138 ?_
      refine j_iconst C dX2_readNext_141 ?_
      refine j_iadd C dX2_readNext_142 ?_
      refine j_put_p0 C 0 2 rfl orO_put1 rfl wU_X2 tyX2_ok nmX2 (by decide) wF_X2_19 rfl rfl rfl (Nat.le_of_ble_eq_true rfl) dX2_readNext_143 ?_
      refine j_aload_n C dX2_readNext_146 rfl ?_
      refine j_bipush C dX2_readNext_147 (by decide) ?_
      refine j_perm (pm_2_0_1 _ _) ?_
      refine j_callVi C (As := [.int (iI _)]) (c_X2_readSign _ _ _ _ _ _ _ (by exact bq) (by first | assumption | omega)) 1 nf_X2_readSign (jb := 0) rfl rfl wL_X2_49 wI_X2_readSign wSe_X2_X2_readSign wIn_X2 wC_X2_readSign rfl rfl (by decide) dX2_readNext_149 (Nat.le_of_ble_eq_true rfl) ⟨Nat.le_of_ble_eq_true rfl, Nat.le_of_ble_eq_true rfl⟩ (fun x149 u149 h149 => ?_)
      refine j_perm (pr_2_0_1 _ _) ?_
      have o149 := SG_ob h149 bq (by decide)
      have k149 := h149.1.1
      have k149_3 := h149.1.2 3 (by decide)
      have k149_4 := h149.1.2 4 (by decide)
      have k149_5 := h149.1.2 5 (by decide)
      have k149_6 := h149.1.2 6 (by decide)
      have k149_7 := h149.1.2 7 (by decide)
      have k149_8 := h149.1.2 8 (by decide)
      have g149 := h149.2
      rw [q_0, q_1] at g149
      refine hR _ dX2_readNext_152 (by omega) ?_ rfl (Nat.le_of_ble_eq_true rfl) (Nat.le_of_ble_eq_true rfl)
      have eE : ordE t (O 0) (O 1) = if pk t (O 0) (O 1 + 1) ≠ 59 then O 1 + 1 else -1 := by unfold ordE; rw [if_neg (by omega), if_neg (by omega), if_pos (by omega)]
      have eN : ordN t (O 0) (O 1) = O 1 + 2 := by unfold ordN; rw [if_neg (by omega), if_neg (by omega)]
      refine Or.inr ⟨by omega, by omega, o149, by omega, ?_⟩
      rw [eE, eN]
      rcases g149 with g | g
      · exact Or.inl ⟨g.2.1, if_neg (by omega), by omega, by omega, fun q => by omega, fun q => by omega⟩
      · exact Or.inr ⟨g.2.1, by rw [if_pos g.1]; omega, by rw [if_pos g.1]; omega⟩
    by_cases q25_98 : x15 = 98
    · refine j_lookup (tgt := 136) (v := 98) C dX2_readNext_25 q25_98 (by decide) (by decide) (by decide) rfl (by decide) ?_
      have q_0 : st (st O 3 x15) 1 (st O 3 x15 1 + 1) 0 = O 0 := rfl
      have q_1 : st (st O 3 x15) 1 (st O 3 x15 1 + 1) 1 = O 1 + 1 := rfl
      have q_2 : st (st O 3 x15) 1 (st O 3 x15 1 + 1) 2 = O 2 := rfl
      have q_3 : st (st O 3 x15) 1 (st O 3 x15 1 + 1) 3 = x15 := rfl
      have bq : OB t (st (st O 3 x15) 1 (st O 3 x15 1 + 1)) := ⟨hb.1, by show 0 ≤ O 1 + 1 ∧ O 1 + 1 ≤ O 0; omega⟩
      refine j_aload_n C dX2_readNext_136 rfl ?_
      refine j_dup C dX2_readNext_137 rfl ?_
      refine j_get C 0 0 2 rfl rfl rfl wU_X2 (by decide) wF_X2_19 rfl dX2_readNext_138 ?_
      refine j_iconst C dX2_readNext_141 ?_
      refine j_iadd C dX2_readNext_142 ?_
      refine j_put_p0 C 0 2 rfl orO_put1 rfl wU_X2 tyX2_ok nmX2 (by decide) wF_X2_19 rfl rfl rfl (Nat.le_of_ble_eq_true rfl) dX2_readNext_143 ?_
      refine j_aload_n C dX2_readNext_146 rfl ?_
      refine j_bipush C dX2_readNext_147 (by decide) ?_
      refine j_perm (pm_2_0_1 _ _) ?_
      refine j_callVi C (As := [.int (iI _)]) (c_X2_readSign _ _ _ _ _ _ _ (by exact bq) (by first | assumption | omega)) 1 nf_X2_readSign (jb := 0) rfl rfl wL_X2_49 wI_X2_readSign wSe_X2_X2_readSign wIn_X2 wC_X2_readSign rfl rfl (by decide) dX2_readNext_149 (Nat.le_of_ble_eq_true rfl) ⟨Nat.le_of_ble_eq_true rfl, Nat.le_of_ble_eq_true rfl⟩ (fun x149 u149 h149 => ?_)
      refine j_perm (pr_2_0_1 _ _) ?_
      have o149 := SG_ob h149 bq (by decide)
      have k149 := h149.1.1
      have k149_3 := h149.1.2 3 (by decide)
      have k149_4 := h149.1.2 4 (by decide)
      have k149_5 := h149.1.2 5 (by decide)
      have k149_6 := h149.1.2 6 (by decide)
      have k149_7 := h149.1.2 7 (by decide)
      have k149_8 := h149.1.2 8 (by decide)
      have g149 := h149.2
      rw [q_0, q_1] at g149
      refine hR _ dX2_readNext_152 (by omega) ?_ rfl (Nat.le_of_ble_eq_true rfl) (Nat.le_of_ble_eq_true rfl)
      have eE : ordE t (O 0) (O 1) = if pk t (O 0) (O 1 + 1) ≠ 59 then O 1 + 1 else -1 := by unfold ordE; rw [if_neg (by omega), if_neg (by omega), if_pos (by omega)]
      have eN : ordN t (O 0) (O 1) = O 1 + 2 := by unfold ordN; rw [if_neg (by omega), if_neg (by omega)]
      refine Or.inr ⟨by omega, by omega, o149, by omega, ?_⟩
      rw [eE, eN]
      rcases g149 with g | g
      · exact Or.inl ⟨g.2.1, if_neg (by omega), by omega, by omega, fun q => by omega, fun q => by omega⟩
      · exact Or.inr ⟨g.2.1, by rw [if_pos g.1]; omega, by rw [if_pos g.1]; omega⟩
    by_cases q25_112 : x15 = 112
    · refine j_lookup (tgt := 76) (v := 112) C dX2_readNext_25 q25_112 (by decide) (by decide) (by decide) rfl (by decide) ?_
      have q_0 : st (st O 3 x15) 1 (st O 3 x15 1 + 1) 0 = O 0 := rfl
      have q_1 : st (st O 3 x15) 1 (st O 3 x15 1 + 1) 1 = O 1 + 1 := rfl
      have q_2 : st (st O 3 x15) 1 (st O 3 x15 1 + 1) 2 = O 2 := rfl
      have q_3 : st (st O 3 x15) 1 (st O 3 x15 1 + 1) 3 = x15 := rfl
      have bq : OB t (st (st O 3 x15) 1 (st O 3 x15 1 + 1)) := ⟨hb.1, by show 0 ≤ O 1 + 1 ∧ O 1 + 1 ≤ O 0; omega⟩
      refine j_aload_n C dX2_readNext_76 rfl ?_
      refine j_dup C dX2_readNext_77 rfl ?_
      refine j_get C 0 0 2 rfl rfl rfl wU_X2 (by decide) wF_X2_19 rfl dX2_readNext_78 ?_
      refine j_iconst C dX2_readNext_81 ?_
      refine j_iadd C dX2_readNext_82 ?_
      refine j_put_p0 C 0 2 rfl orO_put1 rfl wU_X2 tyX2_ok nmX2 (by decide) wF_X2_19 rfl rfl rfl (Nat.le_of_ble_eq_true rfl) dX2_readNext_83 ?_
      refine j_aload_n C dX2_readNext_86 rfl ?_
      refine j_perm (pm_2_0_1 _ _) ?_
      refine j_callVi C (As := []) (c_X2_readPromise _ _ _ _ _ _ (O 1) (by exact bq) (by exact ⟨q_1, hb1.1⟩)) 0 nf_X2_readPromise (jb := 0) rfl rfl wL_X2_39 wI_X2_readPromise wSe_X2_X2_readPromise wIn_X2 wC_X2_readPromise rfl rfl (by decide) dX2_readNext_87 (Nat.le_of_ble_eq_true rfl) ⟨Nat.le_of_ble_eq_true rfl, Nat.le_of_ble_eq_true rfl⟩ (fun x87 u87 h87 => ?_)
      refine j_perm (pr_2_0_1 _ _) ?_
      exact hR _ dX2_readNext_90 (by rcases h87.2.2.2.2 with h | h <;> omega) (by exact PRd_RD (Q := st (st O 3 x15) 1 (st O 3 x15 1 + 1)) (by omega) ⟨rfl, rfl⟩ rfl (h87.2.1.trans (q_3.trans h15)) (by omega) h87) rfl (Nat.le_of_ble_eq_true rfl) (Nat.le_of_ble_eq_true rfl)
    by_cases q25_120 : x15 = 120
    · refine j_lookup (tgt := 91) (v := 120) C dX2_readNext_25 q25_120 (by decide) (by decide) (by decide) rfl (by decide) ?_
      have q_0 : st (st O 3 x15) 1 (st O 3 x15 1 + 1) 0 = O 0 := rfl
      have q_1 : st (st O 3 x15) 1 (st O 3 x15 1 + 1) 1 = O 1 + 1 := rfl
      have q_2 : st (st O 3 x15) 1 (st O 3 x15 1 + 1) 2 = O 2 := rfl
      have q_3 : st (st O 3 x15) 1 (st O 3 x15 1 + 1) 3 = x15 := rfl
      have bq : OB t (st (st O 3 x15) 1 (st O 3 x15 1 + 1)) := ⟨hb.1, by show 0 ≤ O 1 + 1 ∧ O 1 + 1 ≤ O 0; omega⟩
      refine j_aload_n C dX2_readNext_91 rfl ?_
      refine j_dup C dX2_readNext_92 rfl ?_
      refine j_get C 0 0 2 rfl rfl rfl wU_X2 (by decide) wF_X2_19 rfl dX2_readNext_93 ?_
      refine j_iconst C dX2_readNext_96 ?_
      refine j_iadd C dX2_readNext_97 ?_
      refine j_put_p0 C 0 2 rfl orO_put1 rfl wU_X2 tyX2_ok nmX2 (by decide) wF_X2_19 rfl rfl rfl (Nat.le_of_ble_eq_true rfl) dX2_readNext_98 ?_
      refine j_aload_n C dX2_readNext_101 rfl ?_
      refine j_aload_n C dX2_readNext_102 rfl ?_
      refine j_iconst C dX2_readNext_103 ?_
      refine j_iconst C dX2_readNext_104 ?_
      refine j_bipush C dX2_readNext_105 (by decide) ?_
      refine j_perm (pm_2_0_1 _ _) ?_
      refine j_callVi C (As := [.int (iI _), .int (iI _), .int (iI _)]) (c_X2_readNumber _ _ _ _ _ _ _ _ _ (by exact bq) (by first | assumption | omega) (by first | assumption | omega) (by first | assumption | omega)) 3 nf_X2_readNumber (jb := 0) rfl rfl wL_X2_42 wI_X2_readNumber wSe_X2_X2_readNumber wIn_X2 wC_X2_readNumber rfl rfl (by decide) dX2_readNext_107 (Nat.le_of_ble_eq_true rfl) ⟨Nat.le_of_ble_eq_true rfl, Nat.le_of_ble_eq_true rfl⟩ (fun x107 u107 h107 => ?_)
      refine j_perm (pr_2_0_1 _ _) ?_
      have o107 := NG_ob h107 bq
      have k107 := h107.1.1
      have k107_3 := h107.1.2 3 (by decide)
      have k107_4 := h107.1.2 4 (by decide)
      have k107_5 := h107.1.2 5 (by decide)
      have k107_6 := h107.1.2 6 (by decide)
      have k107_7 := h107.1.2 7 (by decide)
      have k107_8 := h107.1.2 8 (by decide)
      have g107 := h107.2
      rw [q_0, q_1, show (2 : Int).toNat = 2 from rfl] at g107
      have eu107_0 : st u107 8 x107 0 = u107 0 := st_n (by decide)
      have eu107_1 : st u107 8 x107 1 = u107 1 := st_n (by decide)
      have eu107_2 : st u107 8 x107 2 = u107 2 := st_n (by decide)
      have eu107_3 : st u107 8 x107 3 = u107 3 := st_n (by decide)
      have eu107_4 : st u107 8 x107 4 = u107 4 := st_n (by decide)
      have eu107_5 : st u107 8 x107 5 = u107 5 := st_n (by decide)
      have eu107_6 : st u107 8 x107 6 = u107 6 := st_n (by decide)
      have eu107_7 : st u107 8 x107 7 = u107 7 := st_n (by decide)
      have eu107_8 : st u107 8 x107 8 = x107 := st_s _ _ _
      have b107 := OB_st (i := 8) (v := x107) o107 (by decide)
      refine j_put_p0 C 0 9 rfl orO_put8 rfl wU_X2 tyX2_ok nmX2 (by decide) wF_X2_46 rfl rfl rfl (Nat.le_of_ble_eq_true rfl) dX2_readNext_110 ?_
      refine j_aload_n C dX2_readNext_113 rfl ?_
      refine j_get C 0 0 9 rfl rfl rfl wU_X2 (by decide) wF_X2_46 rfl dX2_readNext_114 ?_
      refine j_iconst C dX2_readNext_117 ?_
      refine j_icmp_eq (tgt := 134) C dX2_readNext_118 (by decide) (by omega) (by omega) (by omega) (by omega) (fun c118 => ?_) (fun c118 => ?_)
      · refine j_iconst C dX2_readNext_134 ?_
        refine hR _ dX2_readNext_135 (by omega) ?_ rfl (Nat.le_of_ble_eq_true rfl) (Nat.le_of_ble_eq_true rfl)
        have eE : ordE t (O 0) (O 1) = nuE t (O 0) (O 1) := by unfold ordE; rw [if_neg (by omega), if_pos (by omega)]
        have eN : ordN t (O 0) (O 1) = O 1 + 1 + fK t (O 0) 2 (O 1 + 1) + 1 := by unfold ordN; rw [if_neg (by omega), if_pos (by omega)]
        have hk2 := fK_bd t (O 0) 2 (O 1 + 1)
        refine Or.inr ⟨by omega, by omega, by assumption, by omega, ?_⟩
        rw [eE, eN]
        first | (have gg : x124 ≠ 0 := c127; exact Or.inl ⟨rfl, by unfold nuE; rw [if_neg (by omega), if_neg (by omega)], by omega, by omega, fun q => by omega, fun _ => by omega⟩) | (have gg : x124 = 0 := c127; have e : nuE t (O 0) (O 1) = O 1 + 1 + fK t (O 0) 2 (O 1 + 1) := (by unfold nuE; rw [if_neg (by omega), if_pos (by omega)]); exact Or.inr ⟨rfl, by omega, by omega⟩) | (have e : nuE t (O 0) (O 1) = fE t (O 0) 2 0 99 (O 1 + 1) := (by unfold nuE; rw [if_pos (by omega)]); exact Or.inr ⟨rfl, by omega, by omega⟩)
      · have z107 : u107 0 = O 0 := by omega
        have s107 : u107 1 = O 1 + 1 + fK t (O 0) 2 (O 1 + 1) := by omega
        refine j_aload_n C dX2_readNext_121 rfl ?_
        refine j_bipush C dX2_readNext_122 (by decide) ?_
        refine j_perm (pm_2_0_1 _ _) ?_
        refine j_callVi C (As := [.int (iI _)]) (c_X2_readSign _ _ _ _ _ _ _ (by exact b107) (by first | assumption | omega)) 1 nf_X2_readSign (jb := 0) rfl rfl wL_X2_49 wI_X2_readSign wSe_X2_X2_readSign wIn_X2 wC_X2_readSign rfl rfl (by decide) dX2_readNext_124 (Nat.le_of_ble_eq_true rfl) ⟨Nat.le_of_ble_eq_true rfl, Nat.le_of_ble_eq_true rfl⟩ (fun x124 u124 h124 => ?_)
        refine j_perm (pr_2_0_1 _ _) ?_
        have o124 := SG_ob h124 b107 (by decide)
        have k124 := h124.1.1
        have k124_3 := h124.1.2 3 (by decide)
        have k124_4 := h124.1.2 4 (by decide)
        have k124_5 := h124.1.2 5 (by decide)
        have k124_6 := h124.1.2 6 (by decide)
        have k124_7 := h124.1.2 7 (by decide)
        have k124_8 := h124.1.2 8 (by decide)
        have g124 := h124.2
        rw [eu107_0, eu107_1, z107, s107] at g124
        refine j_if_eq (tgt := 134) C dX2_readNext_127 (by decide) (by omega) (by omega) (fun c127 => ?_) (fun c127 => ?_)
        · refine j_iconst C dX2_readNext_134 ?_
          refine hR _ dX2_readNext_135 (by omega) ?_ rfl (Nat.le_of_ble_eq_true rfl) (Nat.le_of_ble_eq_true rfl)
          have eE : ordE t (O 0) (O 1) = nuE t (O 0) (O 1) := by unfold ordE; rw [if_neg (by omega), if_pos (by omega)]
          have eN : ordN t (O 0) (O 1) = O 1 + 1 + fK t (O 0) 2 (O 1 + 1) + 1 := by unfold ordN; rw [if_neg (by omega), if_pos (by omega)]
          have hk2 := fK_bd t (O 0) 2 (O 1 + 1)
          refine Or.inr ⟨by omega, by omega, by assumption, by omega, ?_⟩
          rw [eE, eN]
          first | (have gg : x124 ≠ 0 := c127; exact Or.inl ⟨rfl, by unfold nuE; rw [if_neg (by omega), if_neg (by omega)], by omega, by omega, fun q => by omega, fun _ => by omega⟩) | (have gg : x124 = 0 := c127; have e : nuE t (O 0) (O 1) = O 1 + 1 + fK t (O 0) 2 (O 1 + 1) := (by unfold nuE; rw [if_neg (by omega), if_pos (by omega)]); exact Or.inr ⟨rfl, by omega, by omega⟩) | (have e : nuE t (O 0) (O 1) = fE t (O 0) 2 0 99 (O 1 + 1) := (by unfold nuE; rw [if_pos (by omega)]); exact Or.inr ⟨rfl, by omega, by omega⟩)
        · refine j_iconst C dX2_readNext_130 ?_
          refine j_goto (tgt := 135) C dX2_readNext_131 (by decide) ?_
          refine hR _ dX2_readNext_135 (by omega) ?_ rfl (Nat.le_of_ble_eq_true rfl) (Nat.le_of_ble_eq_true rfl)
          have eE : ordE t (O 0) (O 1) = nuE t (O 0) (O 1) := by unfold ordE; rw [if_neg (by omega), if_pos (by omega)]
          have eN : ordN t (O 0) (O 1) = O 1 + 1 + fK t (O 0) 2 (O 1 + 1) + 1 := by unfold ordN; rw [if_neg (by omega), if_pos (by omega)]
          have hk2 := fK_bd t (O 0) 2 (O 1 + 1)
          refine Or.inr ⟨by omega, by omega, by assumption, by omega, ?_⟩
          rw [eE, eN]
          first | (have gg : x124 ≠ 0 := c127; exact Or.inl ⟨rfl, by unfold nuE; rw [if_neg (by omega), if_neg (by omega)], by omega, by omega, fun q => by omega, fun _ => by omega⟩) | (have gg : x124 = 0 := c127; have e : nuE t (O 0) (O 1) = O 1 + 1 + fK t (O 0) 2 (O 1 + 1) := (by unfold nuE; rw [if_neg (by omega), if_pos (by omega)]); exact Or.inr ⟨rfl, by omega, by omega⟩) | (have e : nuE t (O 0) (O 1) = fE t (O 0) 2 0 99 (O 1 + 1) := (by unfold nuE; rw [if_pos (by omega)]); exact Or.inr ⟨rfl, by omega, by omega⟩)
    by_cases q25_121 : x15 = 121
    · refine j_lookup (tgt := 91) (v := 121) C dX2_readNext_25 q25_121 (by decide) (by decide) (by decide) rfl (by decide) ?_
      have q_0 : st (st O 3 x15) 1 (st O 3 x15 1 + 1) 0 = O 0 := rfl
      have q_1 : st (st O 3 x15) 1 (st O 3 x15 1 + 1) 1 = O 1 + 1 := rfl
      have q_2 : st (st O 3 x15) 1 (st O 3 x15 1 + 1) 2 = O 2 := rfl
      have q_3 : st (st O 3 x15) 1 (st O 3 x15 1 + 1) 3 = x15 := rfl
      have bq : OB t (st (st O 3 x15) 1 (st O 3 x15 1 + 1)) := ⟨hb.1, by show 0 ≤ O 1 + 1 ∧ O 1 + 1 ≤ O 0; omega⟩
      refine j_aload_n C dX2_readNext_91 rfl ?_
      refine j_dup C dX2_readNext_92 rfl ?_
      refine j_get C 0 0 2 rfl rfl rfl wU_X2 (by decide) wF_X2_19 rfl dX2_readNext_93 ?_
      refine j_iconst C dX2_readNext_96 ?_
      refine j_iadd C dX2_readNext_97 ?_
      refine j_put_p0 C 0 2 rfl orO_put1 rfl wU_X2 tyX2_ok nmX2 (by decide) wF_X2_19 rfl rfl rfl (Nat.le_of_ble_eq_true rfl) dX2_readNext_98 ?_
      refine j_aload_n C dX2_readNext_101 rfl ?_
      refine j_aload_n C dX2_readNext_102 rfl ?_
      refine j_iconst C dX2_readNext_103 ?_
      refine j_iconst C dX2_readNext_104 ?_
      refine j_bipush C dX2_readNext_105 (by decide) ?_
      refine j_perm (pm_2_0_1 _ _) ?_
      refine j_callVi C (As := [.int (iI _), .int (iI _), .int (iI _)]) (c_X2_readNumber _ _ _ _ _ _ _ _ _ (by exact bq) (by first | assumption | omega) (by first | assumption | omega) (by first | assumption | omega)) 3 nf_X2_readNumber (jb := 0) rfl rfl wL_X2_42 wI_X2_readNumber wSe_X2_X2_readNumber wIn_X2 wC_X2_readNumber rfl rfl (by decide) dX2_readNext_107 (Nat.le_of_ble_eq_true rfl) ⟨Nat.le_of_ble_eq_true rfl, Nat.le_of_ble_eq_true rfl⟩ (fun x107 u107 h107 => ?_)
      refine j_perm (pr_2_0_1 _ _) ?_
      have o107 := NG_ob h107 bq
      have k107 := h107.1.1
      have k107_3 := h107.1.2 3 (by decide)
      have k107_4 := h107.1.2 4 (by decide)
      have k107_5 := h107.1.2 5 (by decide)
      have k107_6 := h107.1.2 6 (by decide)
      have k107_7 := h107.1.2 7 (by decide)
      have k107_8 := h107.1.2 8 (by decide)
      have g107 := h107.2
      rw [q_0, q_1, show (2 : Int).toNat = 2 from rfl] at g107
      have eu107_0 : st u107 8 x107 0 = u107 0 := st_n (by decide)
      have eu107_1 : st u107 8 x107 1 = u107 1 := st_n (by decide)
      have eu107_2 : st u107 8 x107 2 = u107 2 := st_n (by decide)
      have eu107_3 : st u107 8 x107 3 = u107 3 := st_n (by decide)
      have eu107_4 : st u107 8 x107 4 = u107 4 := st_n (by decide)
      have eu107_5 : st u107 8 x107 5 = u107 5 := st_n (by decide)
      have eu107_6 : st u107 8 x107 6 = u107 6 := st_n (by decide)
      have eu107_7 : st u107 8 x107 7 = u107 7 := st_n (by decide)
      have eu107_8 : st u107 8 x107 8 = x107 := st_s _ _ _
      have b107 := OB_st (i := 8) (v := x107) o107 (by decide)
      refine j_put_p0 C 0 9 rfl orO_put8 rfl wU_X2 tyX2_ok nmX2 (by decide) wF_X2_46 rfl rfl rfl (Nat.le_of_ble_eq_true rfl) dX2_readNext_110 ?_
      refine j_aload_n C dX2_readNext_113 rfl ?_
      refine j_get C 0 0 9 rfl rfl rfl wU_X2 (by decide) wF_X2_46 rfl dX2_readNext_114 ?_
      refine j_iconst C dX2_readNext_117 ?_
      refine j_icmp_eq (tgt := 134) C dX2_readNext_118 (by decide) (by omega) (by omega) (by omega) (by omega) (fun c118 => ?_) (fun c118 => ?_)
      · refine j_iconst C dX2_readNext_134 ?_
        refine hR _ dX2_readNext_135 (by omega) ?_ rfl (Nat.le_of_ble_eq_true rfl) (Nat.le_of_ble_eq_true rfl)
        have eE : ordE t (O 0) (O 1) = nuE t (O 0) (O 1) := by unfold ordE; rw [if_neg (by omega), if_pos (by omega)]
        have eN : ordN t (O 0) (O 1) = O 1 + 1 + fK t (O 0) 2 (O 1 + 1) + 1 := by unfold ordN; rw [if_neg (by omega), if_pos (by omega)]
        have hk2 := fK_bd t (O 0) 2 (O 1 + 1)
        refine Or.inr ⟨by omega, by omega, by assumption, by omega, ?_⟩
        rw [eE, eN]
        first | (have gg : x124 ≠ 0 := c127; exact Or.inl ⟨rfl, by unfold nuE; rw [if_neg (by omega), if_neg (by omega)], by omega, by omega, fun q => by omega, fun _ => by omega⟩) | (have gg : x124 = 0 := c127; have e : nuE t (O 0) (O 1) = O 1 + 1 + fK t (O 0) 2 (O 1 + 1) := (by unfold nuE; rw [if_neg (by omega), if_pos (by omega)]); exact Or.inr ⟨rfl, by omega, by omega⟩) | (have e : nuE t (O 0) (O 1) = fE t (O 0) 2 0 99 (O 1 + 1) := (by unfold nuE; rw [if_pos (by omega)]); exact Or.inr ⟨rfl, by omega, by omega⟩)
      · have z107 : u107 0 = O 0 := by omega
        have s107 : u107 1 = O 1 + 1 + fK t (O 0) 2 (O 1 + 1) := by omega
        refine j_aload_n C dX2_readNext_121 rfl ?_
        refine j_bipush C dX2_readNext_122 (by decide) ?_
        refine j_perm (pm_2_0_1 _ _) ?_
        refine j_callVi C (As := [.int (iI _)]) (c_X2_readSign _ _ _ _ _ _ _ (by exact b107) (by first | assumption | omega)) 1 nf_X2_readSign (jb := 0) rfl rfl wL_X2_49 wI_X2_readSign wSe_X2_X2_readSign wIn_X2 wC_X2_readSign rfl rfl (by decide) dX2_readNext_124 (Nat.le_of_ble_eq_true rfl) ⟨Nat.le_of_ble_eq_true rfl, Nat.le_of_ble_eq_true rfl⟩ (fun x124 u124 h124 => ?_)
        refine j_perm (pr_2_0_1 _ _) ?_
        have o124 := SG_ob h124 b107 (by decide)
        have k124 := h124.1.1
        have k124_3 := h124.1.2 3 (by decide)
        have k124_4 := h124.1.2 4 (by decide)
        have k124_5 := h124.1.2 5 (by decide)
        have k124_6 := h124.1.2 6 (by decide)
        have k124_7 := h124.1.2 7 (by decide)
        have k124_8 := h124.1.2 8 (by decide)
        have g124 := h124.2
        rw [eu107_0, eu107_1, z107, s107] at g124
        refine j_if_eq (tgt := 134) C dX2_readNext_127 (by decide) (by omega) (by omega) (fun c127 => ?_) (fun c127 => ?_)
        · refine j_iconst C dX2_readNext_134 ?_
          refine hR _ dX2_readNext_135 (by omega) ?_ rfl (Nat.le_of_ble_eq_true rfl) (Nat.le_of_ble_eq_true rfl)
          have eE : ordE t (O 0) (O 1) = nuE t (O 0) (O 1) := by unfold ordE; rw [if_neg (by omega), if_pos (by omega)]
          have eN : ordN t (O 0) (O 1) = O 1 + 1 + fK t (O 0) 2 (O 1 + 1) + 1 := by unfold ordN; rw [if_neg (by omega), if_pos (by omega)]
          have hk2 := fK_bd t (O 0) 2 (O 1 + 1)
          refine Or.inr ⟨by omega, by omega, by assumption, by omega, ?_⟩
          rw [eE, eN]
          first | (have gg : x124 ≠ 0 := c127; exact Or.inl ⟨rfl, by unfold nuE; rw [if_neg (by omega), if_neg (by omega)], by omega, by omega, fun q => by omega, fun _ => by omega⟩) | (have gg : x124 = 0 := c127; have e : nuE t (O 0) (O 1) = O 1 + 1 + fK t (O 0) 2 (O 1 + 1) := (by unfold nuE; rw [if_neg (by omega), if_pos (by omega)]); exact Or.inr ⟨rfl, by omega, by omega⟩) | (have e : nuE t (O 0) (O 1) = fE t (O 0) 2 0 99 (O 1 + 1) := (by unfold nuE; rw [if_pos (by omega)]); exact Or.inr ⟨rfl, by omega, by omega⟩)
        · refine j_iconst C dX2_readNext_130 ?_
          refine j_goto (tgt := 135) C dX2_readNext_131 (by decide) ?_
          refine hR _ dX2_readNext_135 (by omega) ?_ rfl (Nat.le_of_ble_eq_true rfl) (Nat.le_of_ble_eq_true rfl)
          have eE : ordE t (O 0) (O 1) = nuE t (O 0) (O 1) := by unfold ordE; rw [if_neg (by omega), if_pos (by omega)]
          have eN : ordN t (O 0) (O 1) = O 1 + 1 + fK t (O 0) 2 (O 1 + 1) + 1 := by unfold ordN; rw [if_neg (by omega), if_pos (by omega)]
          have hk2 := fK_bd t (O 0) 2 (O 1 + 1)
          refine Or.inr ⟨by omega, by omega, by assumption, by omega, ?_⟩
          rw [eE, eN]
          first | (have gg : x124 ≠ 0 := c127; exact Or.inl ⟨rfl, by unfold nuE; rw [if_neg (by omega), if_neg (by omega)], by omega, by omega, fun q => by omega, fun _ => by omega⟩) | (have gg : x124 = 0 := c127; have e : nuE t (O 0) (O 1) = O 1 + 1 + fK t (O 0) 2 (O 1 + 1) := (by unfold nuE; rw [if_neg (by omega), if_pos (by omega)]); exact Or.inr ⟨rfl, by omega, by omega⟩) | (have e : nuE t (O 0) (O 1) = fE t (O 0) 2 0 99 (O 1 + 1) := (by unfold nuE; rw [if_pos (by omega)]); exact Or.inr ⟨rfl, by omega, by omega⟩)
    refine j_lookupD (tgt := 153) C dX2_readNext_25 (by omega) (by omega) (by decide) (by show (if (97 : Int) = _ then (111 : Int) else (if (98 : Int) = _ then (111 : Int) else (if (112 : Int) = _ then (51 : Int) else (if (120 : Int) = _ then (66 : Int) else (if (121 : Int) = _ then (66 : Int) else (128 : Int)))))) = _; omega) (by decide) ?_
    refine j_aload_n C dX2_readNext_153 rfl ?_
    refine j_aload_n C dX2_readNext_154 rfl ?_
    refine j_get C 0 0 2 rfl rfl rfl wU_X2 (by decide) wF_X2_19 rfl dX2_readNext_155 ?_
    refine j_perm (pm_2_0 _ _) ?_
    refine j_callVi C (As := [.int (iI _)]) (c_X2_fail _ _ _ _ _ _ ) 1 nf_X2_fail (jb := 0) rfl rfl wL_X2_53 wI_X2_fail wSe_X2_X2_fail wIn_X2 wC_X2_fail rfl rfl (by decide) dX2_readNext_158 (Nat.le_of_ble_eq_true rfl) ⟨Nat.le_of_ble_eq_true rfl, Nat.le_of_ble_eq_true rfl⟩ (fun x158 u158 h158 => ?_)
    refine j_perm (pr_2_0 _ _) ?_
    refine hR _ dX2_readNext_161 (by omega) ?_ rfl (Nat.le_of_ble_eq_true rfl) (Nat.le_of_ble_eq_true rfl)
    have eE : ordE t (O 0) (O 1) = O 1 := by unfold ordE; rw [if_neg (by omega), if_neg (by omega), if_neg (by omega)]
    subst h158
    refine Or.inr ⟨by omega, rfl, ⟨hb.1, hb.2⟩, h15, Or.inr ⟨rfl, ?_, ?_⟩⟩
    · omega
    · rw [eE]; rfl
  · refine j_iconst C dX2_readNext_11 ?_
    exact hR O dX2_readNext_12 (by omega) (by exact Or.inl ⟨by omega, rfl, rfl⟩) rfl (Nat.le_of_ble_eq_true rfl) (Nat.le_of_ble_eq_true rfl)
set_option maxHeartbeats 4000000 in
set_option maxRecDepth 100000 in
theorem c_X2_syntaxError (l : Launch) (D : va_G) (cA : Nat → ClassId) (o : Nat → Nat) (O t : Int → Int) (hb : TX t (O 0)) : MI (U := Int → Int) l yX2_syntaxError cX2_syntaxError 2 (some .int) (rmN 5 0 0) D cA [.ref (o 0)] [orO o O, [(o 1, aJ (cA 0) 100 t)]] (fun x u => x = syn t (O 0) 100 0 ∧ u 0 = O 0) (fun u => [orO o u, [(o 1, aJ (cA 0) 100 t)]]) := by
  refine m_startI pn_X2 rfl (List.forall_mem_cons.mpr ⟨rfl, fun _ h => absurd h List.not_mem_nil⟩) (Nat.le_of_ble_eq_true rfl) ?_
  intro K C e1 e2 e3 hin hR
  subst e1 e2 e3
  have hb0 := hb.1
  show J K 0 0 [orO o O, [(o 1, aJ ((kC K) 0) 100 t)]] [some (.ref (o 0)), none] 0 []
  refine j_aload_n C dX2_syntaxError_0 rfl ?_
  refine j_perm (pm_2_0 _ _) ?_
  refine j_callVv C (As := []) (c_X2_rewind _ _ _ _ _ ) 0 nf_X2_rewind (jb := 0) rfl rfl wL_X2_25 wI_X2_rewind wSe_X2_X2_rewind wIn_X2 wC_X2_rewind rfl rfl (by decide) dX2_syntaxError_1 (Nat.le_of_ble_eq_true rfl) ⟨Nat.le_of_ble_eq_true rfl, Nat.le_of_ble_eq_true rfl⟩ (fun u1 h1 => ?_)
  refine j_perm (pr_2_0 _ _) ?_
  refine j_iconst C dX2_syntaxError_4 ?_
  refine j_istn_1 C dX2_syntaxError_5 rfl ?_
  have L6 : ∀ (fuel : Nat) (r : Int) (Q : Int → Int) (hr : 0 ≤ r ∧ r ≤ 100) (hQ : Q 0 = O 0 ∧ OB t Q ∧ Q 2 = -1) (hs : syn t (O 0) (100 - r).toNat (Q 1) = syn t (O 0) 100 0) (hf6 : (100 - r).toNat < fuel), J K 0 0 [orO o Q, [(o 1, aJ ((kC K) 0) 100 t)]] [some (.ref (o 0)), some (.int (iI r))] 6 [] := by
    intro fuel
    induction fuel with
    | zero => intro r Q hr hQ hs hf6; exact absurd hf6 (Nat.not_lt_zero _)
    | succ fuel ih6 =>
      intro r Q hr hQ hs hf6
      refine j_iload_n C dX2_syntaxError_6 rfl ?_
      refine j_bipush C dX2_syntaxError_7 (by decide) ?_
      refine j_icmp_ge (tgt := 25) C dX2_syntaxError_9 (by decide) (by omega) (by omega) (by omega) (by omega) (fun c9 => ?_) (fun c9 => ?_)
      · refine j_aload_n C dX2_syntaxError_25 rfl ?_
        refine j_get C 0 0 3 rfl rfl rfl wU_X2 (by decide) wF_X2_22 rfl dX2_syntaxError_26 ?_
        refine hR _ dX2_syntaxError_29 ?_ rfl (Nat.le_of_ble_eq_true rfl) (Nat.le_of_ble_eq_true rfl)
        first
        | (have gg := h13
           rcases h13 with w | w
           · rw [hQ.1] at w
             rw [w.2.2]
             refine ⟨?_, hQ.1⟩
             rw [← hs, show (100 - r).toNat = (100 - (r + 1)).toNat + 1 by omega, syn, if_pos (by omega)]
             exact hQ.2.2
           · rcases w.2.2.2.2 with g | g
             · omega
             · rw [hQ.1] at w g
               refine ⟨?_, w.2.1⟩
               rw [← hs, show (100 - r).toNat = (100 - (r + 1)).toNat + 1 by omega, syn, if_neg (by omega), if_neg g.2.1]
               exact g.2.2)
        | exact ⟨by rw [← hs, show (100 - r).toNat = 0 by omega]; exact hQ.2.2, hQ.1⟩
      · refine j_aload_n C dX2_syntaxError_12 rfl ?_
        refine j_perm (pm_2_0_1 _ _) ?_
        refine j_callVi C (As := []) (c_X2_readNext _ _ _ _ _ _ (by exact hQ.2.1)) 0 nf_X2_readNext (jb := 0) rfl rfl wL_X2_28 wI_X2_readNext wSe_X2_X2_readNext wIn_X2 wC_X2_readNext rfl rfl (by decide) dX2_syntaxError_13 (Nat.le_of_ble_eq_true rfl) ⟨Nat.le_of_ble_eq_true rfl, Nat.le_of_ble_eq_true rfl⟩ (fun x13 u13 h13 => ?_)
        refine j_perm (pr_2_0_1 _ _) ?_
        have hx13 : x13 = 0 ∨ x13 = 1 := by
          rcases h13 with w | w
          · exact Or.inl w.2.1
          · rcases w.2.2.2.2 with g | g
            · exact Or.inr g.1
            · exact Or.inl g.1
        refine j_if_eq (tgt := 25) C dX2_syntaxError_16 (by decide) (by omega) (by omega) (fun c16 => ?_) (fun c16 => ?_)
        · refine j_aload_n C dX2_syntaxError_25 rfl ?_
          refine j_get C 0 0 3 rfl rfl rfl wU_X2 (by decide) wF_X2_22 rfl dX2_syntaxError_26 ?_
          refine hR _ dX2_syntaxError_29 ?_ rfl (Nat.le_of_ble_eq_true rfl) (Nat.le_of_ble_eq_true rfl)
          first
          | (have gg := h13
             rcases h13 with w | w
             · rw [hQ.1] at w
               rw [w.2.2]
               refine ⟨?_, hQ.1⟩
               rw [← hs, show (100 - r).toNat = (100 - (r + 1)).toNat + 1 by omega, syn, if_pos (by omega)]
               exact hQ.2.2
             · rcases w.2.2.2.2 with g | g
               · omega
               · rw [hQ.1] at w g
                 refine ⟨?_, w.2.1⟩
                 rw [← hs, show (100 - r).toNat = (100 - (r + 1)).toNat + 1 by omega, syn, if_neg (by omega), if_neg g.2.1]
                 exact g.2.2)
          | exact ⟨by rw [← hs, show (100 - r).toNat = 0 by omega]; exact hQ.2.2, hQ.1⟩
        · refine j_iinc_1 C dX2_syntaxError_19 rfl ?_
          refine j_goto (tgt := 6) C dX2_syntaxError_22 (by decide) ?_
          exact ih6 _ _ (by omega) (by rcases h13 with w | w; (omega); (refine ⟨w.2.1.trans hQ.1, w.2.2.1, ?_⟩; rcases w.2.2.2.2 with g | g <;> omega)) (by rcases h13 with w | w; (omega); (rcases w.2.2.2.2 with g | g; (rw [hQ.1] at w g; rw [← hs, show (100 - r).toNat = (100 - (r + 1)).toNat + 1 by omega, syn, if_neg (by omega), if_pos g.2.1, g.2.2.1]); (omega))) (by omega)
  exact L6 _ _ _ (by omega) (by exact ⟨rfl, ⟨hb, by show (0 : Int) ≤ 0 ∧ (0 : Int) ≤ O 0; omega⟩, rfl⟩) (by rfl) (Nat.lt_succ_self _)
