/-! p29: isRing, isAhead, holds, dischargesOne -/
theorem ib_best {K : KT} {cc : ByteArray} {nL : Nat} {own : String} {ret : Option FieldType} {rm : Room} {ce sl pc index : Nat} {lv : List (Option Value)} {sk : List Value} (C : Cx K cc nL own ret rm) {A : AT} {c : Int} {L : LT} {S : Int → Int} {u : SC} (hI : Inv S) (hL : Cond.methodLink own index yX5_bestRing ∈ GW) (hlv : lv.length = nL) (hR0 : (rmN 24 0 0).frames + 1 ≤ rm.frames ∧ 8 + (1 + 11) + (rmN 24 0 0).locals ≤ rm.locals) (hd : decode cc pc = .ok (.invokevirtual index, 3)) (hsk : (sk.map fun v => v.category).sum ≤ 8) (hs0 : ce ≤ rm.cells ∧ sl ≤ rm.slots) (kk : ∀ u2 : SC, J K ce sl [wB (kC K) A c L S u2] lv (pc + 3) (.int (iI (best S)) :: sk)) : J K ce sl [wB (kC K) A c L S u] lv pc (.ref A.1 :: sk) := by
  refine j_flat wB_open ?_
  refine j_perm (pm_18_0_2_3_4_5_6_7_9 _ _ _ _ _ _ _ _ _ _ _ _ _ _ _ _ _ _) ?_
  refine j_callVi C (As := []) (c_X5_bestRing _ _ _ _ _ _ _ _ _ _ (A.2.2.2.2.2.2.2) _ _ _ _ _ _ _ hI) 0 nf_X5_bestRing (jb := 0) rfl rfl hL wI_X5_bestRing wSe_X5_X5_bestRing wIn_X5 wC_X5_bestRing rfl hlv hR0 hd hsk hs0 (fun x u1 h1 => ?_)
  refine j_perm (pr_18_0_2_3_4_5_6_7_9 _ _ _ _ _ _ _ _ _ _ _ _ _ _ _ _ _ _) ?_
  refine j_flat wB_close ?_
  have h1 : x = best S := h1
  subst h1
  exact kk _
set_option maxHeartbeats 4000000 in
set_option maxRecDepth 100000 in
theorem c_L_isRing (l : Launch) (D : va_G) (cA : Nat → ClassId) (A : AT) (c : Int) (L : LT) (S : Int → Int) (u : SC) (j : Int) (g : Good S) (hj : 0 ≤ j ∧ j < ((RS S).length : Int)) : MH (U := SC) l yL_isRing cL_isRing 8 (some .boolean) (rmN 29 0 0) D cA [.ref (A.1), .int (iI j)] [wB cA A c L S u] (fun x _ => x = 1) (fun u => [wB cA A c L S u]) := by
  refine m_startH pn_L rfl (List.forall_mem_cons.mpr ⟨rfl, List.forall_mem_cons.mpr ⟨rfl, fun _ h => absurd h List.not_mem_nil⟩⟩) (Nat.le_of_ble_eq_true rfl) ?_
  intro K C e1 e2 e3 XK hR
  subst e1 e2 e3
  have hI := g.1
  have hN := hI.2.1
  have hQ := hI.1
  have hvb := val_bd g
  have hrl := RS_len hI
  obtain ⟨hpr, hl2, hl7, hft⟩ := row_all hI hj
  have gk := row_get hpr.1
  have gf := row_first hft hpr.1.1
  have hrb := room_bd hI hpr
  have hmk := mkS_room hI hpr
  have hs2 := sav2 hI hpr (w := room S ((RS S).getD j.toNat [])) (by omega)
  have hsb := savP_bd (S := S) (r := ((RS S).getD j.toNat [])) hI hl7 (amt := room S ((RS S).getD j.toNat [])) (by omega) (by omega)
  show J K 0 0 [wB (kC K) A c L S u] [some (.ref (A.1)), some (.int (iI j)), none, none, none, none, none, none] 0 []
  refine j_aload_n C dL_isRing_0 rfl ?_
  refine j_iload_n C dL_isRing_1 rfl ?_
  refine j_iconst C dL_isRing_2 ?_
  refine j_perm (pm_1_0 _) ?_
  refine j_callW C XK (As := [.ref _, .int (iI _), .int (iI _)]) (c_L_ring _ _ _ _ _ _ _ _ _ _ (by first | assumption | omega) (by first | assumption | omega) (by first | assumption | omega)) 3 nf_L_ring.2 wL_L_80 wS_L_ring wIn_L wC_L_ring rfl rfl (by decide) dL_isRing_3 (Nat.le_of_ble_eq_true rfl) ⟨Nat.le_of_ble_eq_true rfl, Nat.le_of_ble_eq_true rfl⟩ (fun x3 u3 h3 => ?_)
  refine j_perm (pr_1_0 _) ?_
  have h3 : x3 = ((RS S).getD j.toNat []).getD ((0 : Int)).toNat (-1) := h3
  have q3 := gk ((0 : Int)) (by omega)
  rw [← h3] at q3
  refine j_istn_2 C dL_isRing_6 rfl ?_
  refine j_ldc C 40001 (by decide) wN_L_82 dL_isRing_7 ?_
  refine j_istn_3 C dL_isRing_9 rfl ?_
  refine j_iconst C dL_isRing_10 ?_
  refine j_ist_4 C dL_isRing_11 rfl ?_
  refine j_aload_n C dL_isRing_13 rfl ?_
  refine j_iload_n C dL_isRing_14 rfl ?_
  refine j_iconst C dL_isRing_15 ?_
  refine j_perm (pm_1_0 _) ?_
  refine j_callW C XK (As := [.ref _, .int (iI _), .int (iI _)]) (c_L_ring _ _ _ _ _ _ _ _ _ _ (by first | assumption | omega) (by first | assumption | omega) (by first | assumption | omega)) 3 nf_L_ring.2 wL_L_80 wS_L_ring wIn_L wC_L_ring rfl rfl (by decide) dL_isRing_16 (Nat.le_of_ble_eq_true rfl) ⟨Nat.le_of_ble_eq_true rfl, Nat.le_of_ble_eq_true rfl⟩ (fun x16 u16 h16 => ?_)
  refine j_perm (pr_1_0 _) ?_
  have h16 : x16 = ((RS S).getD j.toNat []).getD ((1 : Int)).toNat (-1) := h16
  have q16 := gk ((1 : Int)) (by omega)
  rw [← h16] at q16
  refine j_if_lt (tgt := 26) C dL_isRing_19 (by decide) (by omega) (by omega) (fun c19 => ?_) (fun c19 => ?_)
  · exfalso; omega
  · refine j_iconst C dL_isRing_22 ?_
    refine j_goto (tgt := 27) C dL_isRing_23 (by decide) ?_
    refine j_ist_5 C dL_isRing_27 rfl ?_
    have L29 : ∀ (fuel : Nat) (k m : Int) (u1 : SC) (hk : 0 ≤ k ∧ k ≤ 7) (hm : (k < (((RS S).getD j.toNat []).length : Int) ∧ m = mkS S ((RS S).getD j.toNat []) k.toNat) ∨ (k = 7 ∧ m = room S ((RS S).getD j.toNat []))) (hmb : 0 ≤ m ∧ m ≤ 40001) (hf29 : (7 - k).toNat < fuel), J K 0 0 [wB (kC K) A c L S u1] [some (.ref (A.1)), some (.int (iI j)), some (.int (iI x3)), some (.int (iI m)), some (.int (iI k)), some (.int (iI 1)), none, none] 29 [] := by
      intro fuel
      induction fuel with
      | zero => intro k m u1 hk hm hmb hf29; exact absurd hf29 (Nat.not_lt_zero _)
      | succ fuel ih29 =>
        intro k m u1 hk hm hmb hf29
        refine j_iload C dL_isRing_29 rfl ?_
        refine j_bipush C dL_isRing_31 (by decide) ?_
        refine j_icmp_ge (tgt := 192) C dL_isRing_33 (by decide) (by omega) (by omega) (by omega) (by omega) (fun c33 => ?_) (fun c33 => ?_)
        · refine j_iload C dL_isRing_192 rfl ?_
          refine j_if_eq (tgt := 221) C dL_isRing_194 (by decide) (by omega) (by omega) (fun c194 => ?_) (fun c194 => ?_)
          · exfalso; omega
          · refine j_aload_n C dL_isRing_197 rfl ?_
            refine j_iload_n C dL_isRing_198 rfl ?_
            refine j_perm (pm_1_0 _) ?_
            refine j_callW C XK (As := [.ref _, .int (iI _)]) (c_L_room _ _ _ _ _ _ _ _ _ (by first | assumption | omega) (by first | assumption | omega)) 2 nf_L_room.2 wL_L_83 wS_L_room wIn_L wC_L_room rfl rfl (by decide) dL_isRing_199 (Nat.le_of_ble_eq_true rfl) ⟨Nat.le_of_ble_eq_true rfl, Nat.le_of_ble_eq_true rfl⟩ (fun x199 u199 h199 => ?_)
            refine j_perm (pr_1_0 _) ?_
            have h199 : x199 = room S ((RS S).getD j.toNat []) := h199
            refine j_iload_n C dL_isRing_202 rfl ?_
            refine j_icmp_ne (tgt := 221) C dL_isRing_203 (by decide) (by omega) (by omega) (by omega) (by omega) (fun c203 => ?_) (fun c203 => ?_)
            · exfalso; omega
            · refine j_aload_n C dL_isRing_206 rfl ?_
              refine j_iload_n C dL_isRing_207 rfl ?_
              refine j_perm (pm_1_0 _) ?_
              refine j_callW C XK (As := [.ref _, .int (iI _)]) (c_L_saving _ _ _ _ _ _ _ _ _ (by first | assumption | omega) (by first | assumption | omega)) 2 nf_L_saving.2 wL_L_85 wS_L_saving wIn_L wC_L_saving rfl rfl (by decide) dL_isRing_208 (Nat.le_of_ble_eq_true rfl) ⟨Nat.le_of_ble_eq_true rfl, Nat.le_of_ble_eq_true rfl⟩ (fun x208 u208 h208 => ?_)
              refine j_perm (pr_1_0 _) ?_
              have h208 : x208 = savP S ((RS S).getD j.toNat []) (room S ((RS S).getD j.toNat [])) := h208
              refine j_iconst C dL_isRing_211 ?_
              refine j_iload_n C dL_isRing_212 rfl ?_
              refine j_imul C dL_isRing_213 ?_
              refine j_icmp_lt (tgt := 221) C dL_isRing_214 (by decide) (by omega) (by omega) (by omega) (by omega) (fun c214 => ?_) (fun c214 => ?_)
              · exfalso; omega
              · refine j_iconst C dL_isRing_217 ?_
                refine j_goto (tgt := 222) C dL_isRing_218 (by decide) ?_
                exact hR u208 dL_isRing_222 (by omega) (by omega) rfl (Nat.le_of_ble_eq_true rfl) (Nat.le_of_ble_eq_true rfl)
        · have hk1 : k < (((RS S).getD j.toNat []).length : Int) := by omega
          have hmm : m = mkS S ((RS S).getD j.toNat []) k.toNat := by omega
          refine j_aload_n C dL_isRing_36 rfl ?_
          refine j_iload_n C dL_isRing_37 rfl ?_
          refine j_iload C dL_isRing_38 rfl ?_
          refine j_perm (pm_1_0 _) ?_
          refine j_callW C XK (As := [.ref _, .int (iI _), .int (iI _)]) (c_L_ring _ _ _ _ _ _ _ _ _ _ (by first | assumption | omega) (by first | assumption | omega) (by first | assumption | omega)) 3 nf_L_ring.2 wL_L_80 wS_L_ring wIn_L wC_L_ring rfl rfl (by decide) dL_isRing_40 (Nat.le_of_ble_eq_true rfl) ⟨Nat.le_of_ble_eq_true rfl, Nat.le_of_ble_eq_true rfl⟩ (fun x40 u40 h40 => ?_)
          refine j_perm (pr_1_0 _) ?_
          have h40 : x40 = ((RS S).getD j.toNat []).getD (k).toNat (-1) := h40
          have q40 := gk (k) (by omega)
          rw [← h40] at q40
          refine j_if_lt (tgt := 192) C dL_isRing_43 (by decide) (by omega) (by omega) (fun c43 => ?_) (fun c43 => ?_)
          · exfalso; omega
          · refine j_iload C dL_isRing_46 rfl ?_
            refine j_if_eq (tgt := 192) C dL_isRing_48 (by decide) (by omega) (by omega) (fun c48 => ?_) (fun c48 => ?_)
            · exfalso; omega
            · have L76 : ∀ (la : Int) (u2 : SC) (hla : la = if k + 1 = (((RS S).getD j.toNat []).length : Int) then 1 else 0), J K 0 0 [wB (kC K) A c L S u2] [some (.ref (A.1)), some (.int (iI j)), some (.int (iI x3)), some (.int (iI m)), some (.int (iI k)), some (.int (iI 1)), none, none] 76 [.int (iI la)] := by
                intro la u2 hla
                refine j_ist_6 C dL_isRing_76 rfl ?_
                refine j_aload_n C dL_isRing_78 rfl ?_
                refine j_aload_n C dL_isRing_79 rfl ?_
                refine j_iload_n C dL_isRing_80 rfl ?_
                refine j_iload C dL_isRing_81 rfl ?_
                refine j_perm (pm_1_0 _) ?_
                refine j_callW C XK (As := [.ref _, .int (iI _), .int (iI _)]) (c_L_ring _ _ _ _ _ _ _ _ _ _ (by first | assumption | omega) (by first | assumption | omega) (by first | assumption | omega)) 3 nf_L_ring.2 wL_L_80 wS_L_ring wIn_L wC_L_ring rfl rfl (by decide) dL_isRing_83 (Nat.le_of_ble_eq_true rfl) ⟨Nat.le_of_ble_eq_true rfl, Nat.le_of_ble_eq_true rfl⟩ (fun x83 u83 h83 => ?_)
                refine j_perm (pr_1_0 _) ?_
                have h83 : x83 = ((RS S).getD j.toNat []).getD (k).toNat (-1) := h83
                have q83 := gk (k) (by omega)
                rw [← h83] at q83
                have L104 : ∀ (y : Int) (u3 : SC) (hy : y = if k + 1 = (((RS S).getD j.toNat []).length : Int) then ((RS S).getD j.toNat []).getD 0 (-1) else ((RS S).getD j.toNat []).getD (k + 1).toNat (-1)), J K 0 0 [wB (kC K) A c L S u3] [some (.ref (A.1)), some (.int (iI j)), some (.int (iI x3)), some (.int (iI m)), some (.int (iI k)), some (.int (iI 1)), some (.int (iI la)), none] 104 [.int (iI y), .int (iI x83), .ref A.1] := by
                  intro y u3 hy
                  have hed := row_edge hI hpr hk.1 hk1 hy
                  refine j_perm (pm_1_0 _) ?_
                  refine j_callW C XK (As := [.ref _, .int (iI _), .int (iI _)]) (c_L_debt _ _ _ _ _ _ _ _ _ _ (by first | assumption | omega) (by rw [h83]; exact hed.1) (by exact hed.2.1)) 3 nf_L_debt.2 wL_L_76 wS_L_debt wIn_L wC_L_debt rfl rfl (by decide) dL_isRing_104 (Nat.le_of_ble_eq_true rfl) ⟨Nat.le_of_ble_eq_true rfl, Nat.le_of_ble_eq_true rfl⟩ (fun x104 u104 h104 => ?_)
                  refine j_perm (pr_1_0 _) ?_
                  have h104 : x104 = debS S (((RS S).getD j.toNat []).getD k.toNat (-1)) y := by rw [← h83]; exact h104
                  rw [← h104] at hed
                  refine j_ist_7 C dL_isRing_107 rfl ?_
                  have L121 : ∀ (m1 : Int) (hm1 : m1 = min m x104), J K 0 0 [wB (kC K) A c L S u104] [some (.ref (A.1)), some (.int (iI j)), some (.int (iI x3)), some (.int (iI m)), some (.int (iI k)), some (.int (iI 1)), some (.int (iI la)), some (.int (iI x104))] 121 [.int (iI m1)] := by
                    intro m1 hm1
                    refine j_istn_3 C dL_isRing_121 rfl ?_
                    have L166 : ∀ (u4 : SC), J K 0 0 [wB (kC K) A c L S u4] [some (.ref (A.1)), some (.int (iI j)), some (.int (iI x3)), some (.int (iI m1)), some (.int (iI k)), some (.int (iI 1)), some (.int (iI la)), none] 166 [] := by
                      intro u4 
                      refine j_iconst C dL_isRing_166 ?_
                      refine j_goto (tgt := 171) C dL_isRing_167 (by decide) ?_
                      refine j_ist_5 C dL_isRing_171 rfl ?_
                      refine j_iload C dL_isRing_173 rfl ?_
                      refine j_if_eq (tgt := 183) C dL_isRing_175 (by decide) (by omega) (by omega) (fun c175 => ?_) (fun c175 => ?_)
                      · refine j_iload C dL_isRing_183 rfl ?_
                        refine j_iconst C dL_isRing_185 ?_
                        refine j_iadd C dL_isRing_186 ?_
                        refine j_ist_4 C dL_isRing_187 rfl ?_
                        refine j_goto (tgt := 29) C dL_isRing_189 (by decide) ?_
                        exact j_lle (lv' := [_, _, _, _, _, _, none, none]) ⟨Or.inr rfl, ⟨Or.inr rfl, ⟨Or.inr rfl, ⟨Or.inr rfl, ⟨Or.inr rfl, ⟨Or.inr rfl, ⟨Or.inl rfl, ⟨Or.inl rfl, trivial⟩⟩⟩⟩⟩⟩⟩⟩ (ih29 _ _ _ (by omega) (by first | (refine Or.inr ⟨rfl, ?_⟩; rw [hm1, ← hmk, show ((RS S).getD j.toNat []).length = (k + 1).toNat by (split at hla <;> omega), hed.2.2.2, ← hmm]; done) | (refine Or.inl ⟨by (split at hla <;> omega), ?_⟩; rw [hm1, hed.2.2.2, ← hmm])) (by omega) (by omega))
                      · refine j_bipush C dL_isRing_178 (by decide) ?_
                        refine j_goto (tgt := 187) C dL_isRing_180 (by decide) ?_
                        refine j_ist_4 C dL_isRing_187 rfl ?_
                        refine j_goto (tgt := 29) C dL_isRing_189 (by decide) ?_
                        exact j_lle (lv' := [_, _, _, _, _, _, none, none]) ⟨Or.inr rfl, ⟨Or.inr rfl, ⟨Or.inr rfl, ⟨Or.inr rfl, ⟨Or.inr rfl, ⟨Or.inr rfl, ⟨Or.inl rfl, ⟨Or.inl rfl, trivial⟩⟩⟩⟩⟩⟩⟩⟩ (ih29 _ _ _ (by omega) (by first | (refine Or.inr ⟨rfl, ?_⟩; rw [hm1, ← hmk, show ((RS S).getD j.toNat []).length = (k + 1).toNat by (split at hla <;> omega), hed.2.2.2, ← hmm]; done) | (refine Or.inl ⟨by (split at hla <;> omega), ?_⟩; rw [hm1, hed.2.2.2, ← hmm])) (by omega) (by omega))
                    refine j_iload C dL_isRing_122 rfl ?_
                    refine j_if_le (tgt := 170) C dL_isRing_124 (by decide) (by omega) (by omega) (fun c124 => ?_) (fun c124 => ?_)
                    · exfalso; omega
                    · refine j_iload C dL_isRing_127 rfl ?_
                      refine j_if_eq (tgt := 143) C dL_isRing_129 (by decide) (by omega) (by omega) (fun c129 => ?_) (fun c129 => ?_)
                      · refine j_iload C dL_isRing_143 rfl ?_
                        refine j_if_eq (tgt := 166) C dL_isRing_145 (by decide) (by omega) (by omega) (fun c145 => ?_) (fun c145 => ?_)
                        · exact j_lle (lv' := [_, _, _, _, _, _, _, none]) ⟨Or.inr rfl, ⟨Or.inr rfl, ⟨Or.inr rfl, ⟨Or.inr rfl, ⟨Or.inr rfl, ⟨Or.inr rfl, ⟨Or.inr rfl, ⟨Or.inl rfl, trivial⟩⟩⟩⟩⟩⟩⟩⟩ (L166 _)
                        · refine j_iload C dL_isRing_148 rfl ?_
                          refine j_bipush C dL_isRing_150 (by decide) ?_
                          refine j_icmp_eq (tgt := 166) C dL_isRing_152 (by decide) (by omega) (by omega) (by omega) (by omega) (fun c152 => ?_) (fun c152 => ?_)
                          · exact j_lle (lv' := [_, _, _, _, _, _, _, none]) ⟨Or.inr rfl, ⟨Or.inr rfl, ⟨Or.inr rfl, ⟨Or.inr rfl, ⟨Or.inr rfl, ⟨Or.inr rfl, ⟨Or.inr rfl, ⟨Or.inl rfl, trivial⟩⟩⟩⟩⟩⟩⟩⟩ (L166 _)
                          · refine j_aload_n C dL_isRing_155 rfl ?_
                            refine j_iload_n C dL_isRing_156 rfl ?_
                            refine j_bipush C dL_isRing_157 (by decide) ?_
                            refine j_perm (pm_1_0 _) ?_
                            refine j_callW C XK (As := [.ref _, .int (iI _), .int (iI _)]) (c_L_ring _ _ _ _ _ _ _ _ _ _ (by first | assumption | omega) (by first | assumption | omega) (by first | assumption | omega)) 3 nf_L_ring.2 wL_L_80 wS_L_ring wIn_L wC_L_ring rfl rfl (by decide) dL_isRing_159 (Nat.le_of_ble_eq_true rfl) ⟨Nat.le_of_ble_eq_true rfl, Nat.le_of_ble_eq_true rfl⟩ (fun x159 u159 h159 => ?_)
                            refine j_perm (pr_1_0 _) ?_
                            have h159 : x159 = ((RS S).getD j.toNat []).getD ((6 : Int)).toNat (-1) := h159
                            have q159 := gk ((6 : Int)) (by omega)
                            rw [← h159] at q159
                            refine j_iconst C dL_isRing_162 ?_
                            refine j_icmp_ne (tgt := 170) C dL_isRing_163 (by decide) (by omega) (by omega) (by omega) (by omega) (fun c163 => ?_) (fun c163 => ?_)
                            · exfalso; split at hla <;> omega
                            · exact j_lle (lv' := [_, _, _, _, _, _, _, none]) ⟨Or.inr rfl, ⟨Or.inr rfl, ⟨Or.inr rfl, ⟨Or.inr rfl, ⟨Or.inr rfl, ⟨Or.inr rfl, ⟨Or.inr rfl, ⟨Or.inl rfl, trivial⟩⟩⟩⟩⟩⟩⟩⟩ (L166 _)
                      · refine j_aload_n C dL_isRing_132 rfl ?_
                        refine j_iload_n C dL_isRing_133 rfl ?_
                        refine j_iload C dL_isRing_134 rfl ?_
                        refine j_perm (pm_1_0 _) ?_
                        refine j_callW C XK (As := [.ref _, .int (iI _), .int (iI _)]) (c_L_ring _ _ _ _ _ _ _ _ _ _ (by first | assumption | omega) (by first | assumption | omega) (by first | assumption | omega)) 3 nf_L_ring.2 wL_L_80 wS_L_ring wIn_L wC_L_ring rfl rfl (by decide) dL_isRing_136 (Nat.le_of_ble_eq_true rfl) ⟨Nat.le_of_ble_eq_true rfl, Nat.le_of_ble_eq_true rfl⟩ (fun x136 u136 h136 => ?_)
                        refine j_perm (pr_1_0 _) ?_
                        have h136 : x136 = ((RS S).getD j.toNat []).getD (k).toNat (-1) := h136
                        have q136 := gk (k) (by omega)
                        rw [← h136] at q136
                        refine j_iload_n C dL_isRing_139 rfl ?_
                        refine j_icmp_le (tgt := 170) C dL_isRing_140 (by decide) (by omega) (by omega) (by omega) (by omega) (fun c140 => ?_) (fun c140 => ?_)
                        · exfalso; have q9 := gf k (by omega) hk1; have h3 : x3 = ((RS S).getD j.toNat []).getD 0 (-1) := h3; omega
                        · refine j_iload C dL_isRing_143 rfl ?_
                          refine j_if_eq (tgt := 166) C dL_isRing_145 (by decide) (by omega) (by omega) (fun c145 => ?_) (fun c145 => ?_)
                          · exact j_lle (lv' := [_, _, _, _, _, _, _, none]) ⟨Or.inr rfl, ⟨Or.inr rfl, ⟨Or.inr rfl, ⟨Or.inr rfl, ⟨Or.inr rfl, ⟨Or.inr rfl, ⟨Or.inr rfl, ⟨Or.inl rfl, trivial⟩⟩⟩⟩⟩⟩⟩⟩ (L166 _)
                          · refine j_iload C dL_isRing_148 rfl ?_
                            refine j_bipush C dL_isRing_150 (by decide) ?_
                            refine j_icmp_eq (tgt := 166) C dL_isRing_152 (by decide) (by omega) (by omega) (by omega) (by omega) (fun c152 => ?_) (fun c152 => ?_)
                            · exact j_lle (lv' := [_, _, _, _, _, _, _, none]) ⟨Or.inr rfl, ⟨Or.inr rfl, ⟨Or.inr rfl, ⟨Or.inr rfl, ⟨Or.inr rfl, ⟨Or.inr rfl, ⟨Or.inr rfl, ⟨Or.inl rfl, trivial⟩⟩⟩⟩⟩⟩⟩⟩ (L166 _)
                            · refine j_aload_n C dL_isRing_155 rfl ?_
                              refine j_iload_n C dL_isRing_156 rfl ?_
                              refine j_bipush C dL_isRing_157 (by decide) ?_
                              refine j_perm (pm_1_0 _) ?_
                              refine j_callW C XK (As := [.ref _, .int (iI _), .int (iI _)]) (c_L_ring _ _ _ _ _ _ _ _ _ _ (by first | assumption | omega) (by first | assumption | omega) (by first | assumption | omega)) 3 nf_L_ring.2 wL_L_80 wS_L_ring wIn_L wC_L_ring rfl rfl (by decide) dL_isRing_159 (Nat.le_of_ble_eq_true rfl) ⟨Nat.le_of_ble_eq_true rfl, Nat.le_of_ble_eq_true rfl⟩ (fun x159 u159 h159 => ?_)
                              refine j_perm (pr_1_0 _) ?_
                              have h159 : x159 = ((RS S).getD j.toNat []).getD ((6 : Int)).toNat (-1) := h159
                              have q159 := gk ((6 : Int)) (by omega)
                              rw [← h159] at q159
                              refine j_iconst C dL_isRing_162 ?_
                              refine j_icmp_ne (tgt := 170) C dL_isRing_163 (by decide) (by omega) (by omega) (by omega) (by omega) (fun c163 => ?_) (fun c163 => ?_)
                              · exfalso; split at hla <;> omega
                              · exact j_lle (lv' := [_, _, _, _, _, _, _, none]) ⟨Or.inr rfl, ⟨Or.inr rfl, ⟨Or.inr rfl, ⟨Or.inr rfl, ⟨Or.inr rfl, ⟨Or.inr rfl, ⟨Or.inr rfl, ⟨Or.inl rfl, trivial⟩⟩⟩⟩⟩⟩⟩⟩ (L166 _)
                  refine j_iload C dL_isRing_109 rfl ?_
                  refine j_iload_n C dL_isRing_111 rfl ?_
                  refine j_icmp_ge (tgt := 120) C dL_isRing_112 (by decide) (by omega) (by omega) (by omega) (by omega) (fun c112 => ?_) (fun c112 => ?_)
                  · refine j_iload_n C dL_isRing_120 rfl ?_
                    exact L121 _ (by omega)
                  · refine j_iload C dL_isRing_115 rfl ?_
                    refine j_goto (tgt := 121) C dL_isRing_117 (by decide) ?_
                    exact L121 _ (by omega)
                refine j_iload C dL_isRing_86 rfl ?_
                refine j_if_eq (tgt := 95) C dL_isRing_88 (by decide) (by omega) (by omega) (fun c88 => ?_) (fun c88 => ?_)
                · refine j_aload_n C dL_isRing_95 rfl ?_
                  refine j_iload_n C dL_isRing_96 rfl ?_
                  refine j_iload C dL_isRing_97 rfl ?_
                  refine j_iconst C dL_isRing_99 ?_
                  refine j_iadd C dL_isRing_100 ?_
                  refine j_perm (pm_1_0 _) ?_
                  refine j_callW C XK (As := [.ref _, .int (iI _), .int (iI _)]) (c_L_ring _ _ _ _ _ _ _ _ _ _ (by first | assumption | omega) (by first | assumption | omega) (by first | assumption | omega)) 3 nf_L_ring.2 wL_L_80 wS_L_ring wIn_L wC_L_ring rfl rfl (by decide) dL_isRing_101 (Nat.le_of_ble_eq_true rfl) ⟨Nat.le_of_ble_eq_true rfl, Nat.le_of_ble_eq_true rfl⟩ (fun x101 u101 h101 => ?_)
                  refine j_perm (pr_1_0 _) ?_
                  have h101 : x101 = ((RS S).getD j.toNat []).getD (k + 1).toNat (-1) := h101
                  have q101 := gk (k + 1) (by omega)
                  rw [← h101] at q101
                  exact L104 _ _ (by rw [if_neg (by split at hla <;> omega)]; exact h101)
                · refine j_iload_n C dL_isRing_91 rfl ?_
                  refine j_goto (tgt := 104) C dL_isRing_92 (by decide) ?_
                  exact L104 _ _ (by rw [if_pos (by split at hla <;> omega)]; exact h3)
              refine j_iload C dL_isRing_51 rfl ?_
              refine j_bipush C dL_isRing_53 (by decide) ?_
              refine j_icmp_eq (tgt := 71) C dL_isRing_55 (by decide) (by omega) (by omega) (by omega) (by omega) (fun c55 => ?_) (fun c55 => ?_)
              · refine j_iconst C dL_isRing_71 ?_
                refine j_goto (tgt := 76) C dL_isRing_72 (by decide) ?_
                exact L76 _ _ (by first | (rw [if_pos (by omega)]; done) | (rw [if_neg (by omega)]))
              · refine j_aload_n C dL_isRing_58 rfl ?_
                refine j_iload_n C dL_isRing_59 rfl ?_
                refine j_iload C dL_isRing_60 rfl ?_
                refine j_iconst C dL_isRing_62 ?_
                refine j_iadd C dL_isRing_63 ?_
                refine j_perm (pm_1_0 _) ?_
                refine j_callW C XK (As := [.ref _, .int (iI _), .int (iI _)]) (c_L_ring _ _ _ _ _ _ _ _ _ _ (by first | assumption | omega) (by first | assumption | omega) (by first | assumption | omega)) 3 nf_L_ring.2 wL_L_80 wS_L_ring wIn_L wC_L_ring rfl rfl (by decide) dL_isRing_64 (Nat.le_of_ble_eq_true rfl) ⟨Nat.le_of_ble_eq_true rfl, Nat.le_of_ble_eq_true rfl⟩ (fun x64 u64 h64 => ?_)
                refine j_perm (pr_1_0 _) ?_
                have h64 : x64 = ((RS S).getD j.toNat []).getD (k + 1).toNat (-1) := h64
                have q64 := gk (k + 1) (by omega)
                rw [← h64] at q64
                refine j_iconst C dL_isRing_67 ?_
                refine j_icmp_ne (tgt := 75) C dL_isRing_68 (by decide) (by omega) (by omega) (by omega) (by omega) (fun c68 => ?_) (fun c68 => ?_)
                · refine j_iconst C dL_isRing_75 ?_
                  exact L76 _ _ (by first | (rw [if_pos (by omega)]; done) | (rw [if_neg (by omega)]))
                · refine j_iconst C dL_isRing_71 ?_
                  refine j_goto (tgt := 76) C dL_isRing_72 (by decide) ?_
                  exact L76 _ _ (by first | (rw [if_pos (by omega)]; done) | (rw [if_neg (by omega)]))
    exact L29 _ _ _ _ (by omega) (by exact Or.inl ⟨by omega, rfl⟩) (by omega) (Nat.lt_succ_self _)
set_option maxHeartbeats 4000000 in
set_option maxRecDepth 100000 in
theorem c_L_isAhead (l : Launch) (D : va_G) (cA : Nat → ClassId) (A : AT) (c : Int) (L : LT) (S : Int → Int) (u : SC) (j : Int) (g : Good S) (hj : 0 ≤ j ∧ j + 1 < ((RS S).length : Int)) : MH (U := SC) l yL_isAhead cL_isAhead 3 (some .boolean) (rmN 29 0 0) D cA [.ref (A.1), .int (iI j)] [wB cA A c L S u] (fun x _ => x = 1) (fun u => [wB cA A c L S u]) := by
  refine m_startH pn_L rfl (List.forall_mem_cons.mpr ⟨rfl, List.forall_mem_cons.mpr ⟨rfl, fun _ h => absurd h List.not_mem_nil⟩⟩) (Nat.le_of_ble_eq_true rfl) ?_
  intro K C e1 e2 e3 XK hR
  subst e1 e2 e3
  have hI := g.1
  have hN := hI.2.1
  have hQ := hI.1
  have hvb := val_bd g
  have hrl := RS_len hI
  obtain ⟨k0, hk7, heq, hlt⟩ := RS_next hj.1 hj.2
  have hpr := RS_get (S := S) hj.1 (by omega)
  have hpr1 := RS_get (S := S) (i := j + 1) (by omega) hj.2
  have gk := row_get hpr.1
  have gk1 := row_get hpr1.1
  show J K 0 0 [wB (kC K) A c L S u] [some (.ref (A.1)), some (.int (iI j)), none] 0 []
  have L31 : ∀ (k : Int) (u2 : SC) (hk : k = (k0 : Int)), J K 0 0 [wB (kC K) A c L S u2] [some (.ref (A.1)), some (.int (iI j)), some (.int (iI k))] 31 [] := by
    intro k u2 hk
    refine j_aload_n C dL_isAhead_31 rfl ?_
    refine j_iload_n C dL_isAhead_32 rfl ?_
    refine j_iload_n C dL_isAhead_33 rfl ?_
    refine j_perm (pm_1_0 _) ?_
    refine j_callW C XK (As := [.ref _, .int (iI _), .int (iI _)]) (c_L_ring _ _ _ _ _ _ _ _ _ _ (by first | assumption | omega) (by omega) (by first | assumption | omega)) 3 nf_L_ring.2 wL_L_80 wS_L_ring wIn_L wC_L_ring rfl rfl (by decide) dL_isAhead_34 (Nat.le_of_ble_eq_true rfl) ⟨Nat.le_of_ble_eq_true rfl, Nat.le_of_ble_eq_true rfl⟩ (fun x34 u34 h34 => ?_)
    refine j_perm (pr_1_0 _) ?_
    have h34 : x34 = ((RS S).getD j.toNat []).getD k.toNat (-1) := h34
    have q34 := gk k (by omega)
    rw [← h34] at q34
    refine j_aload_n C dL_isAhead_37 rfl ?_
    refine j_iload_n C dL_isAhead_38 rfl ?_
    refine j_iconst C dL_isAhead_39 ?_
    refine j_iadd C dL_isAhead_40 ?_
    refine j_iload_n C dL_isAhead_41 rfl ?_
    refine j_perm (pm_1_0 _) ?_
    refine j_callW C XK (As := [.ref _, .int (iI _), .int (iI _)]) (c_L_ring _ _ _ _ _ _ _ _ _ _ (by first | assumption | omega) (by omega) (by first | assumption | omega)) 3 nf_L_ring.2 wL_L_80 wS_L_ring wIn_L wC_L_ring rfl rfl (by decide) dL_isAhead_42 (Nat.le_of_ble_eq_true rfl) ⟨Nat.le_of_ble_eq_true rfl, Nat.le_of_ble_eq_true rfl⟩ (fun x42 u42 h42 => ?_)
    refine j_perm (pr_1_0 _) ?_
    have h42 : x42 = ((RS S).getD (j + 1).toNat []).getD k.toNat (-1) := h42
    have q42 := gk1 k (by omega)
    rw [← h42] at q42
    refine j_icmp_ge (tgt := 52) C dL_isAhead_45 (by decide) (by omega) (by omega) (by omega) (by omega) (fun c45 => ?_) (fun c45 => ?_)
    · exfalso; rw [← show k.toNat = k0 by omega, ← h34, ← h42] at hlt; omega
    · refine j_iconst C dL_isAhead_48 ?_
      refine j_goto (tgt := 53) C dL_isAhead_49 (by decide) ?_
      exact hR u42 dL_isAhead_53 (by omega) (by omega) rfl (Nat.le_of_ble_eq_true rfl) (Nat.le_of_ble_eq_true rfl)
  refine j_iconst C dL_isAhead_0 ?_
  refine j_istn_2 C dL_isAhead_1 rfl ?_
  have L2 : ∀ (fuel : Nat) (k : Int) (u1 : SC) (hk : 0 ≤ k ∧ k ≤ (k0 : Int)) (hf2 : (7 - k).toNat < fuel), J K 0 0 [wB (kC K) A c L S u1] [some (.ref (A.1)), some (.int (iI j)), some (.int (iI k))] 2 [] := by
    intro fuel
    induction fuel with
    | zero => intro k u1 hk hf2; exact absurd hf2 (Nat.not_lt_zero _)
    | succ fuel ih2 =>
      intro k u1 hk hf2
      refine j_iload_n C dL_isAhead_2 rfl ?_
      refine j_bipush C dL_isAhead_3 (by decide) ?_
      refine j_icmp_ge (tgt := 31) C dL_isAhead_5 (by decide) (by omega) (by omega) (by omega) (by omega) (fun c5 => ?_) (fun c5 => ?_)
      · exact L31 _ _ (by omega)
      · refine j_aload_n C dL_isAhead_8 rfl ?_
        refine j_iload_n C dL_isAhead_9 rfl ?_
        refine j_iload_n C dL_isAhead_10 rfl ?_
        refine j_perm (pm_1_0 _) ?_
        refine j_callW C XK (As := [.ref _, .int (iI _), .int (iI _)]) (c_L_ring _ _ _ _ _ _ _ _ _ _ (by first | assumption | omega) (by omega) (by first | assumption | omega)) 3 nf_L_ring.2 wL_L_80 wS_L_ring wIn_L wC_L_ring rfl rfl (by decide) dL_isAhead_11 (Nat.le_of_ble_eq_true rfl) ⟨Nat.le_of_ble_eq_true rfl, Nat.le_of_ble_eq_true rfl⟩ (fun x11 u11 h11 => ?_)
        refine j_perm (pr_1_0 _) ?_
        have h11 : x11 = ((RS S).getD j.toNat []).getD k.toNat (-1) := h11
        have q11 := gk k (by omega)
        rw [← h11] at q11
        refine j_aload_n C dL_isAhead_14 rfl ?_
        refine j_iload_n C dL_isAhead_15 rfl ?_
        refine j_iconst C dL_isAhead_16 ?_
        refine j_iadd C dL_isAhead_17 ?_
        refine j_iload_n C dL_isAhead_18 rfl ?_
        refine j_perm (pm_1_0 _) ?_
        refine j_callW C XK (As := [.ref _, .int (iI _), .int (iI _)]) (c_L_ring _ _ _ _ _ _ _ _ _ _ (by first | assumption | omega) (by omega) (by first | assumption | omega)) 3 nf_L_ring.2 wL_L_80 wS_L_ring wIn_L wC_L_ring rfl rfl (by decide) dL_isAhead_19 (Nat.le_of_ble_eq_true rfl) ⟨Nat.le_of_ble_eq_true rfl, Nat.le_of_ble_eq_true rfl⟩ (fun x19 u19 h19 => ?_)
        refine j_perm (pr_1_0 _) ?_
        have h19 : x19 = ((RS S).getD (j + 1).toNat []).getD k.toNat (-1) := h19
        have q19 := gk1 k (by omega)
        rw [← h19] at q19
        have q22 : k < (k0 : Int) → x11 = x19 := fun e => by rw [h11, h19]; exact heq k.toNat (by omega)
        refine j_icmp_ne (tgt := 31) C dL_isAhead_22 (by decide) (by omega) (by omega) (by omega) (by omega) (fun c22 => ?_) (fun c22 => ?_)
        · exact L31 _ _ (by omega)
        · refine j_iinc_2 C dL_isAhead_25 rfl ?_
          refine j_goto (tgt := 2) C dL_isAhead_28 (by decide) ?_
          exact ih2 _ _ (by refine ⟨by omega, ?_⟩; have z9 : k ≠ (k0 : Int) := (fun e => by rw [← show k.toNat = k0 by omega, ← h11, ← h19] at hlt; omega); omega) (by omega)
  exact L2 _ _ _ (by omega) (Nat.lt_succ_self _)
set_option maxHeartbeats 4000000 in
set_option maxRecDepth 100000 in
theorem c_L_holds (l : Launch) (D : va_G) (cA : Nat → ClassId) (A : AT) (c : Int) (L : LT) (S : Int → Int) (u : SC) (g : Good S) (hfl : l.stackTraces = false) : MH (U := SC) l yL_holds cL_holds 4 (some .boolean) (rmN 30 1 6) D cA [.ref (A.1)] [wB cA A c L S u] (fun x _ => x = 1) (fun u => [wB cA A c L S u]) := by
  refine m_startH pn_L rfl (List.forall_mem_cons.mpr ⟨rfl, fun _ h => absurd h List.not_mem_nil⟩) (Nat.le_of_ble_eq_true rfl) ?_
  intro K C e1 e2 e3 XK hR
  subst e1 e2 e3
  have hI := g.1
  have hN := hI.2.1
  have hQ := hI.1
  have hvb := val_bd g
  have hrl := RS_len hI
  show J K 0 0 [wB (kC K) A c L S u] [some (.ref (A.1)), none, none, none] 0 []
  refine j_aload_n C dL_holds_0 rfl ?_
  refine j_perm (pm_1_0 _) ?_
  refine j_callH C XK (As := [.ref _]) (c_L_promisesHold _ _ _ _ _ _ _ _ (by first | assumption | omega)) 1 nf_L_promisesHold.2 wL_L_87 wS_L_promisesHold wIn_L wC_L_promisesHold rfl rfl (by decide) dL_holds_1 (Nat.le_of_ble_eq_true rfl) ⟨Nat.le_of_ble_eq_true rfl, Nat.le_of_ble_eq_true rfl⟩ (fun x1 u1 h1 => ?_)
  refine j_perm (pr_1_0 _) ?_
  have h1 : x1 = 1 := h1
  subst h1
  refine j_if_eq (tgt := 18) C dL_holds_4 (by decide) (by omega) (by omega) (fun c4 => ?_) (fun c4 => ?_)
  · exfalso; omega
  · refine j_aload_n C dL_holds_7 rfl ?_
    refine j_perm (pm_1_0 _) ?_
    refine j_callH C XK (As := [.ref _]) (c_L_debtsHold _ _ _ _ _ _ _ _ (by first | assumption | omega)) 1 nf_L_debtsHold.2 wL_L_91 wS_L_debtsHold wIn_L wC_L_debtsHold rfl rfl (by decide) dL_holds_8 (Nat.le_of_ble_eq_true rfl) ⟨Nat.le_of_ble_eq_true rfl, Nat.le_of_ble_eq_true rfl⟩ (fun x8 u8 h8 => ?_)
    refine j_perm (pr_1_0 _) ?_
    have h8 : x8 = 1 := h8
    subst h8
    refine j_if_eq (tgt := 18) C dL_holds_11 (by decide) (by omega) (by omega) (fun c11 => ?_) (fun c11 => ?_)
    · exfalso; omega
    · refine j_iconst C dL_holds_14 ?_
      refine j_goto (tgt := 19) C dL_holds_15 (by decide) ?_
      refine j_istn_1 C dL_holds_19 rfl ?_
      refine j_aload_n C dL_holds_20 rfl ?_
      refine j_bipush C dL_holds_21 (by decide) ?_
      refine j_perm (pm_1_0 _) ?_
      refine j_callW C XK (As := [.ref _, .int (iI _)]) (c_L_value _ _ _ _ _ _ _ _ _ (by first | assumption | omega) (by first | assumption | omega)) 2 nf_L_value.2 wL_L_68 wS_L_value wIn_L wC_L_value rfl rfl (by decide) dL_holds_23 (Nat.le_of_ble_eq_true rfl) ⟨Nat.le_of_ble_eq_true rfl, Nat.le_of_ble_eq_true rfl⟩ (fun x23 u23 h23 => ?_)
      refine j_perm (pr_1_0 _) ?_
      have h23 : x23 = ((RS S).length : Int) := h23.trans vO6
      subst h23
      refine j_istn_2 C dL_holds_26 rfl ?_
      have L79 : ∀ (u3 : SC), J K 0 0 [wB (kC K) A c L S u3] [some (.ref (A.1)), some (.int (iI 1)), some (.int (iI ((RS S).length : Int))), none] 79 [] := by
        intro u3 
        refine j_iload_n C dL_holds_79 rfl ?_
        refine j_if_eq (tgt := 122) C dL_holds_80 (by decide) (by omega) (by omega) (fun c80 => ?_) (fun c80 => ?_)
        · exfalso; omega
        · refine j_aload_n C dL_holds_83 rfl ?_
          refine j_iload_n C dL_holds_84 rfl ?_
          refine j_perm (pm_1_0 _) ?_
          refine j_callW C XK (As := [.ref _, .int (iI _)]) (c_L_room_xB _ _ _ _ _ _ _ _ _ (by assumption) (by first | assumption | omega) (by omega) (by omega)) 2 nf_L_room.2 wL_L_83 wS_L_room wIn_L wC_L_room rfl rfl (by decide) dL_holds_85 (Nat.le_of_ble_eq_true rfl) ⟨Nat.le_of_ble_eq_true rfl, Nat.le_of_ble_eq_true rfl⟩ (fun x85 u85 h85 => ?_)
          refine j_perm (pr_1_0 _) ?_
          have h85 : x85 = -2000001 := h85
          subst h85
          refine j_ldc C (-2000001) (by decide) wN_L_16 dL_holds_88 ?_
          refine j_icmp_ne (tgt := 122) C dL_holds_90 (by decide) (by omega) (by omega) (by omega) (by omega) (fun c90 => ?_) (fun c90 => ?_)
          · exfalso; omega
          · have L102 : ∀ (v : Int) (hv : v = if (RS S).length = 0 then 1 else 0), J K (0 + (rmN 28 1 6).cells) (0 + (rmN 28 1 6).slots) [wB (kC K) A c L S u85] [some (.ref (A.1)), some (.int (iI 1)), some (.int (iI ((RS S).length : Int))), none] 102 [.int (iI v)] := by
              intro v hv
              have b0 := fun h => best_no (S := S) h
              have b1 := fun h => best_is hI h
              have b2 := best_rng S
              refine j_aload_n C dL_holds_102 rfl ?_
              refine ib_best C hI wL_L_101 rfl ⟨by decide, by decide⟩ dL_holds_103 (Nat.le_of_ble_eq_true rfl) ⟨by decide, by decide⟩ (fun u103 => ?_)
              refine j_iconst C dL_holds_106 ?_
              refine j_icmp_ne (tgt := 114) C dL_holds_107 (by decide) (by omega) (by omega) (by omega) (by omega) (fun c107 => ?_) (fun c107 => ?_)
              · refine j_iconst C dL_holds_114 ?_
                refine j_icmp_ne (tgt := 122) C dL_holds_115 (by decide) (by omega) (by omega) (by omega) (by omega) (fun c115 => ?_) (fun c115 => ?_)
                · exfalso; split at hv <;> omega
                · refine j_iconst C dL_holds_118 ?_
                  refine j_goto (tgt := 123) C dL_holds_119 (by decide) ?_
                  exact hR u103 dL_holds_123 (by omega) (by omega) rfl (Nat.le_of_ble_eq_true rfl) (Nat.le_of_ble_eq_true rfl)
              · refine j_iconst C dL_holds_110 ?_
                refine j_goto (tgt := 115) C dL_holds_111 (by decide) ?_
                refine j_icmp_ne (tgt := 122) C dL_holds_115 (by decide) (by omega) (by omega) (by omega) (by omega) (fun c115 => ?_) (fun c115 => ?_)
                · exfalso; split at hv <;> omega
                · refine j_iconst C dL_holds_118 ?_
                  refine j_goto (tgt := 123) C dL_holds_119 (by decide) ?_
                  exact hR u103 dL_holds_123 (by omega) (by omega) rfl (Nat.le_of_ble_eq_true rfl) (Nat.le_of_ble_eq_true rfl)
            have b0 := fun h => best_no (S := S) h
            have b1 := fun h => best_is hI h
            have b2 := best_rng S
            refine j_iload_n C dL_holds_93 rfl ?_
            refine j_if_ne (tgt := 101) C dL_holds_94 (by decide) (by omega) (by omega) (fun c94 => ?_) (fun c94 => ?_)
            · refine j_iconst C dL_holds_101 ?_
              exact L102 _ (by first | (rw [if_pos (by omega)]; done) | (rw [if_neg (by omega)]))
            · refine j_iconst C dL_holds_97 ?_
              refine j_goto (tgt := 102) C dL_holds_98 (by decide) ?_
              exact L102 _ (by first | (rw [if_pos (by omega)]; done) | (rw [if_neg (by omega)]))
      refine j_iconst C dL_holds_27 ?_
      refine j_istn_3 C dL_holds_28 rfl ?_
      have L29 : ∀ (fuel : Nat) (i : Int) (u1 : SC) (hi : 0 ≤ i ∧ i ≤ ((RS S).length : Int) ∧ i ≤ 12) (hf29 : (12 - i).toNat < fuel), J K 0 0 [wB (kC K) A c L S u1] [some (.ref (A.1)), some (.int (iI 1)), some (.int (iI ((RS S).length : Int))), some (.int (iI i))] 29 [] := by
        intro fuel
        induction fuel with
        | zero => intro i u1 hi hf29; exact absurd hf29 (Nat.not_lt_zero _)
        | succ fuel ih29 =>
          intro i u1 hi hf29
          refine j_iload_n C dL_holds_29 rfl ?_
          refine j_iload_n C dL_holds_30 rfl ?_
          refine j_icmp_ge (tgt := 79) C dL_holds_31 (by decide) (by omega) (by omega) (by omega) (by omega) (fun c31 => ?_) (fun c31 => ?_)
          · exact j_lle (lv' := [_, _, _, none]) ⟨Or.inr rfl, ⟨Or.inr rfl, ⟨Or.inr rfl, ⟨Or.inl rfl, trivial⟩⟩⟩⟩ (L79 _)
          · refine j_iload_n C dL_holds_34 rfl ?_
            refine j_bipush C dL_holds_35 (by decide) ?_
            refine j_icmp_ge (tgt := 79) C dL_holds_37 (by decide) (by omega) (by omega) (by omega) (by omega) (fun c37 => ?_) (fun c37 => ?_)
            · exact j_lle (lv' := [_, _, _, none]) ⟨Or.inr rfl, ⟨Or.inr rfl, ⟨Or.inr rfl, ⟨Or.inl rfl, trivial⟩⟩⟩⟩ (L79 _)
            · refine j_iload_n C dL_holds_40 rfl ?_
              refine j_if_eq (tgt := 79) C dL_holds_41 (by decide) (by omega) (by omega) (fun c41 => ?_) (fun c41 => ?_)
              · exfalso; omega
              · refine j_aload_n C dL_holds_44 rfl ?_
                refine j_iload_n C dL_holds_45 rfl ?_
                refine j_perm (pm_1_0 _) ?_
                refine j_callH C XK (As := [.ref _, .int (iI _)]) (c_L_isRing _ _ _ _ _ _ _ _ _ (by first | assumption | omega) (by first | assumption | omega)) 2 nf_L_isRing.2 wL_L_94 wS_L_isRing wIn_L wC_L_isRing rfl rfl (by decide) dL_holds_46 (Nat.le_of_ble_eq_true rfl) ⟨Nat.le_of_ble_eq_true rfl, Nat.le_of_ble_eq_true rfl⟩ (fun x46 u46 h46 => ?_)
                refine j_perm (pr_1_0 _) ?_
                have h46 : x46 = 1 := h46
                subst h46
                refine j_if_eq (tgt := 71) C dL_holds_49 (by decide) (by omega) (by omega) (fun c49 => ?_) (fun c49 => ?_)
                · exfalso; omega
                · have L67 : ∀ (u2 : SC), J K 0 0 [wB (kC K) A c L S u2] [some (.ref (A.1)), some (.int (iI 1)), some (.int (iI ((RS S).length : Int))), some (.int (iI i))] 67 [] := by
                    intro u2 
                    refine j_iconst C dL_holds_67 ?_
                    refine j_goto (tgt := 72) C dL_holds_68 (by decide) ?_
                    refine j_istn_1 C dL_holds_72 rfl ?_
                    refine j_iinc_3 C dL_holds_73 rfl ?_
                    refine j_goto (tgt := 29) C dL_holds_76 (by decide) ?_
                    exact ih29 _ _ (by omega) (by omega)
                  refine j_iload_n C dL_holds_52 rfl ?_
                  refine j_iconst C dL_holds_53 ?_
                  refine j_iadd C dL_holds_54 ?_
                  refine j_iload_n C dL_holds_55 rfl ?_
                  refine j_icmp_eq (tgt := 67) C dL_holds_56 (by decide) (by omega) (by omega) (by omega) (by omega) (fun c56 => ?_) (fun c56 => ?_)
                  · exact L67 _
                  · refine j_aload_n C dL_holds_59 rfl ?_
                    refine j_iload_n C dL_holds_60 rfl ?_
                    refine j_perm (pm_1_0 _) ?_
                    refine j_callH C XK (As := [.ref _, .int (iI _)]) (c_L_isAhead _ _ _ _ _ _ _ _ _ (by first | assumption | omega) (by first | assumption | omega)) 2 nf_L_isAhead.2 wL_L_98 wS_L_isAhead wIn_L wC_L_isAhead rfl rfl (by decide) dL_holds_61 (Nat.le_of_ble_eq_true rfl) ⟨Nat.le_of_ble_eq_true rfl, Nat.le_of_ble_eq_true rfl⟩ (fun x61 u61 h61 => ?_)
                    refine j_perm (pr_1_0 _) ?_
                    have h61 : x61 = 1 := h61
                    subst h61
                    refine j_if_eq (tgt := 71) C dL_holds_64 (by decide) (by omega) (by omega) (fun c64 => ?_) (fun c64 => ?_)
                    · exfalso; omega
                    · exact L67 _
      exact L29 _ _ _ (by omega) (Nat.lt_succ_self _)
