/-! p29: the law's helpers -/
set_option maxHeartbeats 4000000 in
set_option maxRecDepth 100000 in
theorem c_L_cell (l : Launch) (D : va_G) (cA : Nat → ClassId) {b0 Ls : Nat} {xs : Nat → Int32} (hL : Ls ≤ 260) (k : Int) (hk : 0 ≤ k ∧ k ≤ 100) : MC l yL_cell cL_cell 2 (some .int) (rmN 1 0 0) D cA b0 Ls xs [.ref b0, .int (iI k)] (fun x => 0 ≤ x ∧ x ≤ 2147483647) := by
  refine m_startC pn_L rfl (List.forall_mem_cons.mpr ⟨rfl, List.forall_mem_cons.mpr ⟨rfl, fun _ h => absurd h List.not_mem_nil⟩⟩) (Nat.le_of_ble_eq_true rfl) ?_
  intro K C hX hbl hbA hR
  show J K 0 0 [] [some (.ref b0), some (.int (iI k))] 0 []
  have hjoin : ∀ v : Int, J K 0 0 [] [some (.ref b0), some (.int (iI k))] 20 [.int (iI v)] := by
    intro v
    refine j_ldc C 2147483647 (by decide) wN_L_7 dL_cell_20 ?_
    obtain ⟨w, hw, ew⟩ := and_nn (iI v)
    refine j_iand C dL_cell_22 ew ?_
    exact hR () dL_cell_23 hw rfl (Nat.zero_le _) (Nat.zero_le _)
  refine j_iload_n C dL_cell_0 rfl ?_
  refine j_aload_n C dL_cell_1 rfl ?_
  refine j_slen C hX hbl hbA dL_cell_2 ?_
  refine j_icmp_ge (tgt := 12) C dL_cell_3 (by decide) (by omega) (by omega) (by omega) (by omega) (fun c3 => ?_) (fun c3 => ?_)
  · refine j_sipush C dL_cell_12 (by decide) ?_
    refine j_iload_n C dL_cell_15 rfl ?_
    refine j_bipush C dL_cell_16 (by decide) ?_
    refine j_iadd C dL_cell_18 ?_
    refine j_imul C dL_cell_19 ?_
    exact hjoin _
  · refine j_aload_n C dL_cell_6 rfl ?_
    refine j_iload_n C dL_cell_7 rfl ?_
    refine j_sld C hX hbl hbA hL dL_cell_8 (by omega) (by omega) ?_
    refine j_goto (tgt := 20) C dL_cell_9 (by decide) ?_
    exact hjoin _
set_option maxHeartbeats 4000000 in
set_option maxRecDepth 100000 in
theorem c_L_promisesHold (l : Launch) (D : va_G) (cA : Nat → ClassId) (A : AT) (c : Int) (L : LT) (S : Int → Int) (u : SC) (g : Good S) : MH (U := SC) l yL_promisesHold cL_promisesHold 10 (some .boolean) (rmN 29 0 0) D cA [.ref (A.1)] [wB cA A c L S u] (fun x _ => x = 1) (fun u => [wB cA A c L S u]) := by
  refine m_startH pn_L rfl (List.forall_mem_cons.mpr ⟨rfl, fun _ h => absurd h List.not_mem_nil⟩) (Nat.le_of_ble_eq_true rfl) ?_
  intro K C e1 e2 e3 XK hR
  subst e1 e2 e3
  have hI := g.1
  have hN := hI.2.1
  have hQ := hI.1
  have hvb := val_bd g
  have hrl := RS_len hI
  show J K 0 0 [wB (kC K) A c L S u] [some (.ref (A.1)), none, none, none, none, none, none, none, none, none] 0 []
  refine j_iconst C dL_promisesHold_0 ?_
  refine j_istn_1 C dL_promisesHold_1 rfl ?_
  refine j_iconst C dL_promisesHold_2 ?_
  refine j_istn_2 C dL_promisesHold_3 rfl ?_
  refine j_iconst C dL_promisesHold_4 ?_
  refine j_istn_3 C dL_promisesHold_5 rfl ?_
  refine j_iconst C dL_promisesHold_6 ?_
  refine j_ist_4 C dL_promisesHold_7 rfl ?_
  refine j_iconst C dL_promisesHold_9 ?_
  refine j_ist_5 C dL_promisesHold_10 rfl ?_
  refine j_iconst C dL_promisesHold_12 ?_
  refine j_ist_6 C dL_promisesHold_13 rfl ?_
  refine j_iconst C dL_promisesHold_15 ?_
  refine j_ist_7 C dL_promisesHold_16 rfl ?_
  refine j_iconst C dL_promisesHold_18 ?_
  refine j_ist_8 C dL_promisesHold_19 rfl ?_
  have L21 : ∀ (fuel : Nat) (p s1 s2 s3 s4 s5 s6 : Int) (u1 : SC) (hp : 0 ≤ p ∧ p ≤ S 1) (hs1 : s1 = sumZ (fun k => if am S k > 0 then 1 else 0) p) (hs2 : s2 = sumZ (fun k => di S k) p) (hs3 : s3 = sumZ (am S) p) (hs4 : s4 = sumZ (fun k => am S k * ra S k) p) (hs5 : s5 = sumZ (pa S) p) (hs6 : s6 = sumZ (re S) p) (hf21 : (S 1 - p).toNat < fuel), J K 0 0 [wB (kC K) A c L S u1] [some (.ref (A.1)), some (.int (iI s1)), some (.int (iI s2)), some (.int (iI s3)), some (.int (iI s4)), some (.int (iI s5)), some (.int (iI s6)), some (.int (iI 1)), some (.int (iI p)), none] 21 [] := by
    intro fuel
    induction fuel with
    | zero => intro p s1 s2 s3 s4 s5 s6 u1 hp hs1 hs2 hs3 hs4 hs5 hs6 hf21; exact absurd hf21 (Nat.not_lt_zero _)
    | succ fuel ih21 =>
      intro p s1 s2 s3 s4 s5 s6 u1 hp hs1 hs2 hs3 hs4 hs5 hs6 hf21
      refine j_iload C dL_promisesHold_21 rfl ?_
      refine j_aload_n C dL_promisesHold_23 rfl ?_
      refine j_iconst C dL_promisesHold_24 ?_
      refine j_perm (pm_1_0 _) ?_
      refine j_callW C XK (As := [.ref _, .int (iI _)]) (c_L_value _ _ _ _ _ _ _ _ _ (by first | assumption | omega) (by first | assumption | omega)) 2 nf_L_value.2 wL_L_68 wS_L_value wIn_L wC_L_value rfl rfl (by decide) dL_promisesHold_25 (Nat.le_of_ble_eq_true rfl) ⟨Nat.le_of_ble_eq_true rfl, Nat.le_of_ble_eq_true rfl⟩ (fun x25 u25 h25 => ?_)
      refine j_perm (pr_1_0 _) ?_
      have h25 : x25 = S 1 := h25.trans vO1
      subst h25
      refine j_icmp_ge (tgt := 184) C dL_promisesHold_28 (by decide) (by omega) (by omega) (by omega) (by omega) (fun c28 => ?_) (fun c28 => ?_)
      · refine j_iload C dL_promisesHold_184 rfl ?_
        refine j_if_eq (tgt := 252) C dL_promisesHold_186 (by decide) (by omega) (by omega) (fun c186 => ?_) (fun c186 => ?_)
        · exfalso; omega
        · have hpe : p = S 1 := by omega
          have k1 : s1 = opnS S := by rw [hs1, hpe]; rfl
          have k2 : s2 = disS S := by rw [hs2, hpe]; rfl
          have k3 : s3 = allS S := by rw [hs3, hpe]; rfl
          have k4 : s4 = cosS S := by rw [hs4, hpe]; rfl
          have k5 : s5 = sumZ (pa S) (S 1) := by rw [hs5, hpe]
          have k6 : s6 = sumZ (re S) (S 1) := by rw [hs6, hpe]
          have m2 := g.2.2.2.1
          have m3 := g.2.2.2.2
          refine j_aload_n C dL_promisesHold_189 rfl ?_
          refine j_iconst C dL_promisesHold_190 ?_
          refine j_perm (pm_1_0 _) ?_
          refine j_callW C XK (As := [.ref _, .int (iI _)]) (c_L_value _ _ _ _ _ _ _ _ _ (by first | assumption | omega) (by first | assumption | omega)) 2 nf_L_value.2 wL_L_68 wS_L_value wIn_L wC_L_value rfl rfl (by decide) dL_promisesHold_191 (Nat.le_of_ble_eq_true rfl) ⟨Nat.le_of_ble_eq_true rfl, Nat.le_of_ble_eq_true rfl⟩ (fun x191 u191 h191 => ?_)
          refine j_perm (pr_1_0 _) ?_
          have h191 : x191 = opnS S := h191.trans vO2
          subst h191
          refine j_iload_n C dL_promisesHold_194 rfl ?_
          refine j_icmp_ne (tgt := 252) C dL_promisesHold_195 (by decide) (by omega) (by omega) (by omega) (by omega) (fun c195 => ?_) (fun c195 => ?_)
          · exfalso; omega
          · refine j_aload_n C dL_promisesHold_198 rfl ?_
            refine j_iconst C dL_promisesHold_199 ?_
            refine j_perm (pm_1_0 _) ?_
            refine j_callW C XK (As := [.ref _, .int (iI _)]) (c_L_value _ _ _ _ _ _ _ _ _ (by first | assumption | omega) (by first | assumption | omega)) 2 nf_L_value.2 wL_L_68 wS_L_value wIn_L wC_L_value rfl rfl (by decide) dL_promisesHold_200 (Nat.le_of_ble_eq_true rfl) ⟨Nat.le_of_ble_eq_true rfl, Nat.le_of_ble_eq_true rfl⟩ (fun x200 u200 h200 => ?_)
            refine j_perm (pr_1_0 _) ?_
            have h200 : x200 = disS S := h200.trans vO3
            subst h200
            refine j_iload_n C dL_promisesHold_203 rfl ?_
            refine j_icmp_ne (tgt := 252) C dL_promisesHold_204 (by decide) (by omega) (by omega) (by omega) (by omega) (fun c204 => ?_) (fun c204 => ?_)
            · exfalso; omega
            · refine j_aload_n C dL_promisesHold_207 rfl ?_
              refine j_iconst C dL_promisesHold_208 ?_
              refine j_perm (pm_1_0 _) ?_
              refine j_callW C XK (As := [.ref _, .int (iI _)]) (c_L_value _ _ _ _ _ _ _ _ _ (by first | assumption | omega) (by first | assumption | omega)) 2 nf_L_value.2 wL_L_68 wS_L_value wIn_L wC_L_value rfl rfl (by decide) dL_promisesHold_209 (Nat.le_of_ble_eq_true rfl) ⟨Nat.le_of_ble_eq_true rfl, Nat.le_of_ble_eq_true rfl⟩ (fun x209 u209 h209 => ?_)
              refine j_perm (pr_1_0 _) ?_
              have h209 : x209 = allS S := h209.trans vO4
              subst h209
              refine j_iload_n C dL_promisesHold_212 rfl ?_
              refine j_icmp_ne (tgt := 252) C dL_promisesHold_213 (by decide) (by omega) (by omega) (by omega) (by omega) (fun c213 => ?_) (fun c213 => ?_)
              · exfalso; omega
              · refine j_aload_n C dL_promisesHold_216 rfl ?_
                refine j_iconst C dL_promisesHold_217 ?_
                refine j_perm (pm_1_0 _) ?_
                refine j_callW C XK (As := [.ref _, .int (iI _)]) (c_L_value _ _ _ _ _ _ _ _ _ (by first | assumption | omega) (by first | assumption | omega)) 2 nf_L_value.2 wL_L_68 wS_L_value wIn_L wC_L_value rfl rfl (by decide) dL_promisesHold_218 (Nat.le_of_ble_eq_true rfl) ⟨Nat.le_of_ble_eq_true rfl, Nat.le_of_ble_eq_true rfl⟩ (fun x218 u218 h218 => ?_)
                refine j_perm (pr_1_0 _) ?_
                have h218 : x218 = cosS S := h218.trans vO5
                subst h218
                refine j_iload C dL_promisesHold_221 rfl ?_
                refine j_icmp_ne (tgt := 252) C dL_promisesHold_223 (by decide) (by omega) (by omega) (by omega) (by omega) (fun c223 => ?_) (fun c223 => ?_)
                · exfalso; omega
                · refine j_aload_n C dL_promisesHold_226 rfl ?_
                  refine j_bipush C dL_promisesHold_227 (by decide) ?_
                  refine j_perm (pm_1_0 _) ?_
                  refine j_callW C XK (As := [.ref _, .int (iI _)]) (c_L_value _ _ _ _ _ _ _ _ _ (by first | assumption | omega) (by first | assumption | omega)) 2 nf_L_value.2 wL_L_68 wS_L_value wIn_L wC_L_value rfl rfl (by decide) dL_promisesHold_229 (Nat.le_of_ble_eq_true rfl) ⟨Nat.le_of_ble_eq_true rfl, Nat.le_of_ble_eq_true rfl⟩ (fun x229 u229 h229 => ?_)
                  refine j_perm (pr_1_0 _) ?_
                  have h229 : x229 = S 2 := h229.trans vO7
                  subst h229
                  refine j_iload C dL_promisesHold_232 rfl ?_
                  refine j_icmp_ne (tgt := 252) C dL_promisesHold_234 (by decide) (by omega) (by omega) (by omega) (by omega) (fun c234 => ?_) (fun c234 => ?_)
                  · exfalso; omega
                  · refine j_aload_n C dL_promisesHold_237 rfl ?_
                    refine j_bipush C dL_promisesHold_238 (by decide) ?_
                    refine j_perm (pm_1_0 _) ?_
                    refine j_callW C XK (As := [.ref _, .int (iI _)]) (c_L_value _ _ _ _ _ _ _ _ _ (by first | assumption | omega) (by first | assumption | omega)) 2 nf_L_value.2 wL_L_68 wS_L_value wIn_L wC_L_value rfl rfl (by decide) dL_promisesHold_240 (Nat.le_of_ble_eq_true rfl) ⟨Nat.le_of_ble_eq_true rfl, Nat.le_of_ble_eq_true rfl⟩ (fun x240 u240 h240 => ?_)
                    refine j_perm (pr_1_0 _) ?_
                    have h240 : x240 = S 3 := h240.trans vO8
                    subst h240
                    refine j_iload C dL_promisesHold_243 rfl ?_
                    refine j_icmp_ne (tgt := 252) C dL_promisesHold_245 (by decide) (by omega) (by omega) (by omega) (by omega) (fun c245 => ?_) (fun c245 => ?_)
                    · exfalso; omega
                    · refine j_iconst C dL_promisesHold_248 ?_
                      refine j_goto (tgt := 253) C dL_promisesHold_249 (by decide) ?_
                      exact hR u240 dL_promisesHold_253 (by omega) (by omega) rfl (Nat.le_of_ble_eq_true rfl) (Nat.le_of_ble_eq_true rfl)
      · have gp := g.2.2.1 p hp.1 (by omega)
        have fp := hI.2.2 p hp.1 (by omega)
        refine j_iload C dL_promisesHold_31 rfl ?_
        refine j_if_eq (tgt := 184) C dL_promisesHold_33 (by decide) (by omega) (by omega) (fun c33 => ?_) (fun c33 => ?_)
        · exfalso; omega
        · refine j_aload_n C dL_promisesHold_36 rfl ?_
          refine j_iload C dL_promisesHold_37 rfl ?_
          refine j_iconst C dL_promisesHold_39 ?_
          refine j_perm (pm_1_0 _) ?_
          refine j_callW C XK (As := [.ref _, .int (iI _), .int (iI _)]) (c_L_promiseOf _ _ _ _ _ _ _ _ _ _ (by first | assumption | omega) (by first | assumption | omega) (by first | assumption | omega)) 3 nf_L_promiseOf.2 wL_L_73 wS_L_promiseOf wIn_L wC_L_promiseOf rfl rfl (by decide) dL_promisesHold_40 (Nat.le_of_ble_eq_true rfl) ⟨Nat.le_of_ble_eq_true rfl, Nat.le_of_ble_eq_true rfl⟩ (fun x40 u40 h40 => ?_)
          refine j_perm (pr_1_0 _) ?_
          have h40 : x40 = am S p := h40.trans pO2
          subst h40
          refine j_ist_9 C dL_promisesHold_43 rfl ?_
          have L56 : ∀ (t : Int) (ht : t = if am S p > 0 then 1 else 0), J K 0 0 [wB (kC K) A c L S u40] [some (.ref (A.1)), some (.int (iI s1)), some (.int (iI s2)), some (.int (iI s3)), some (.int (iI s4)), some (.int (iI s5)), some (.int (iI s6)), some (.int (iI 1)), some (.int (iI p)), some (.int (iI (am S p)))] 56 [.int (iI t), .int (iI s1)] := by
            intro t ht
            refine j_iadd C dL_promisesHold_56 ?_
            refine j_istn_1 C dL_promisesHold_57 rfl ?_
            refine j_iload_n C dL_promisesHold_58 rfl ?_
            refine j_aload_n C dL_promisesHold_59 rfl ?_
            refine j_iload C dL_promisesHold_60 rfl ?_
            refine j_iconst C dL_promisesHold_62 ?_
            refine j_perm (pm_1_0 _) ?_
            refine j_callW C XK (As := [.ref _, .int (iI _), .int (iI _)]) (c_L_promiseOf _ _ _ _ _ _ _ _ _ _ (by first | assumption | omega) (by first | assumption | omega) (by first | assumption | omega)) 3 nf_L_promiseOf.2 wL_L_73 wS_L_promiseOf wIn_L wC_L_promiseOf rfl rfl (by decide) dL_promisesHold_63 (Nat.le_of_ble_eq_true rfl) ⟨Nat.le_of_ble_eq_true rfl, Nat.le_of_ble_eq_true rfl⟩ (fun x63 u63 h63 => ?_)
            refine j_perm (pr_1_0 _) ?_
            have h63 : x63 = di S p := h63.trans pO4
            subst h63
            refine j_iadd C dL_promisesHold_66 ?_
            refine j_istn_2 C dL_promisesHold_67 rfl ?_
            refine j_iload_n C dL_promisesHold_68 rfl ?_
            refine j_iload C dL_promisesHold_69 rfl ?_
            refine j_iadd C dL_promisesHold_71 ?_
            refine j_istn_3 C dL_promisesHold_72 rfl ?_
            refine j_iload C dL_promisesHold_73 rfl ?_
            refine j_iload C dL_promisesHold_75 rfl ?_
            refine j_aload_n C dL_promisesHold_77 rfl ?_
            refine j_iload C dL_promisesHold_78 rfl ?_
            refine j_iconst C dL_promisesHold_80 ?_
            refine j_perm (pm_1_0 _) ?_
            refine j_callW C XK (As := [.ref _, .int (iI _), .int (iI _)]) (c_L_promiseOf _ _ _ _ _ _ _ _ _ _ (by first | assumption | omega) (by first | assumption | omega) (by first | assumption | omega)) 3 nf_L_promiseOf.2 wL_L_73 wS_L_promiseOf wIn_L wC_L_promiseOf rfl rfl (by decide) dL_promisesHold_81 (Nat.le_of_ble_eq_true rfl) ⟨Nat.le_of_ble_eq_true rfl, Nat.le_of_ble_eq_true rfl⟩ (fun x81 u81 h81 => ?_)
            refine j_perm (pr_1_0 _) ?_
            have h81 : x81 = ra S p := h81.trans pO3
            subst h81
            refine j_imul C dL_promisesHold_84 ?_
            refine j_iadd C dL_promisesHold_85 ?_
            refine j_ist_4 C dL_promisesHold_86 rfl ?_
            refine j_iload C dL_promisesHold_88 rfl ?_
            refine j_aload_n C dL_promisesHold_90 rfl ?_
            refine j_iload C dL_promisesHold_91 rfl ?_
            refine j_bipush C dL_promisesHold_93 (by decide) ?_
            refine j_perm (pm_1_0 _) ?_
            refine j_callW C XK (As := [.ref _, .int (iI _), .int (iI _)]) (c_L_promiseOf _ _ _ _ _ _ _ _ _ _ (by first | assumption | omega) (by first | assumption | omega) (by first | assumption | omega)) 3 nf_L_promiseOf.2 wL_L_73 wS_L_promiseOf wIn_L wC_L_promiseOf rfl rfl (by decide) dL_promisesHold_95 (Nat.le_of_ble_eq_true rfl) ⟨Nat.le_of_ble_eq_true rfl, Nat.le_of_ble_eq_true rfl⟩ (fun x95 u95 h95 => ?_)
            refine j_perm (pr_1_0 _) ?_
            have h95 : x95 = pa S p := h95.trans pO6
            subst h95
            refine j_iadd C dL_promisesHold_98 ?_
            refine j_ist_5 C dL_promisesHold_99 rfl ?_
            refine j_iload C dL_promisesHold_101 rfl ?_
            refine j_aload_n C dL_promisesHold_103 rfl ?_
            refine j_iload C dL_promisesHold_104 rfl ?_
            refine j_bipush C dL_promisesHold_106 (by decide) ?_
            refine j_perm (pm_1_0 _) ?_
            refine j_callW C XK (As := [.ref _, .int (iI _), .int (iI _)]) (c_L_promiseOf _ _ _ _ _ _ _ _ _ _ (by first | assumption | omega) (by first | assumption | omega) (by first | assumption | omega)) 3 nf_L_promiseOf.2 wL_L_73 wS_L_promiseOf wIn_L wC_L_promiseOf rfl rfl (by decide) dL_promisesHold_108 (Nat.le_of_ble_eq_true rfl) ⟨Nat.le_of_ble_eq_true rfl, Nat.le_of_ble_eq_true rfl⟩ (fun x108 u108 h108 => ?_)
            refine j_perm (pr_1_0 _) ?_
            have h108 : x108 = re S p := h108.trans pO7
            subst h108
            refine j_iadd C dL_promisesHold_111 ?_
            refine j_ist_6 C dL_promisesHold_112 rfl ?_
            refine j_iload C dL_promisesHold_114 rfl ?_
            refine j_if_lt (tgt := 175) C dL_promisesHold_116 (by decide) (by omega) (by omega) (fun c116 => ?_) (fun c116 => ?_)
            · exfalso; omega
            · refine j_aload_n C dL_promisesHold_119 rfl ?_
              refine j_iload C dL_promisesHold_120 rfl ?_
              refine j_bipush C dL_promisesHold_122 (by decide) ?_
              refine j_perm (pm_1_0 _) ?_
              refine j_callW C XK (As := [.ref _, .int (iI _), .int (iI _)]) (c_L_promiseOf _ _ _ _ _ _ _ _ _ _ (by first | assumption | omega) (by first | assumption | omega) (by first | assumption | omega)) 3 nf_L_promiseOf.2 wL_L_73 wS_L_promiseOf wIn_L wC_L_promiseOf rfl rfl (by decide) dL_promisesHold_124 (Nat.le_of_ble_eq_true rfl) ⟨Nat.le_of_ble_eq_true rfl, Nat.le_of_ble_eq_true rfl⟩ (fun x124 u124 h124 => ?_)
              refine j_perm (pr_1_0 _) ?_
              have h124 : x124 = pa S p := h124.trans pO6
              subst h124
              refine j_if_lt (tgt := 175) C dL_promisesHold_127 (by decide) (by omega) (by omega) (fun c127 => ?_) (fun c127 => ?_)
              · exfalso; omega
              · refine j_aload_n C dL_promisesHold_130 rfl ?_
                refine j_iload C dL_promisesHold_131 rfl ?_
                refine j_bipush C dL_promisesHold_133 (by decide) ?_
                refine j_perm (pm_1_0 _) ?_
                refine j_callW C XK (As := [.ref _, .int (iI _), .int (iI _)]) (c_L_promiseOf _ _ _ _ _ _ _ _ _ _ (by first | assumption | omega) (by first | assumption | omega) (by first | assumption | omega)) 3 nf_L_promiseOf.2 wL_L_73 wS_L_promiseOf wIn_L wC_L_promiseOf rfl rfl (by decide) dL_promisesHold_135 (Nat.le_of_ble_eq_true rfl) ⟨Nat.le_of_ble_eq_true rfl, Nat.le_of_ble_eq_true rfl⟩ (fun x135 u135 h135 => ?_)
                refine j_perm (pr_1_0 _) ?_
                have h135 : x135 = re S p := h135.trans pO7
                subst h135
                refine j_if_lt (tgt := 175) C dL_promisesHold_138 (by decide) (by omega) (by omega) (fun c138 => ?_) (fun c138 => ?_)
                · exfalso; omega
                · refine j_aload_n C dL_promisesHold_141 rfl ?_
                  refine j_iload C dL_promisesHold_142 rfl ?_
                  refine j_iconst C dL_promisesHold_144 ?_
                  refine j_perm (pm_1_0 _) ?_
                  refine j_callW C XK (As := [.ref _, .int (iI _), .int (iI _)]) (c_L_promiseOf _ _ _ _ _ _ _ _ _ _ (by first | assumption | omega) (by first | assumption | omega) (by first | assumption | omega)) 3 nf_L_promiseOf.2 wL_L_73 wS_L_promiseOf wIn_L wC_L_promiseOf rfl rfl (by decide) dL_promisesHold_145 (Nat.le_of_ble_eq_true rfl) ⟨Nat.le_of_ble_eq_true rfl, Nat.le_of_ble_eq_true rfl⟩ (fun x145 u145 h145 => ?_)
                  refine j_perm (pr_1_0 _) ?_
                  have h145 : x145 = fi S p := h145.trans pO5
                  subst h145
                  refine j_iload C dL_promisesHold_148 rfl ?_
                  refine j_aload_n C dL_promisesHold_150 rfl ?_
                  refine j_iload C dL_promisesHold_151 rfl ?_
                  refine j_bipush C dL_promisesHold_153 (by decide) ?_
                  refine j_perm (pm_1_0 _) ?_
                  refine j_callW C XK (As := [.ref _, .int (iI _), .int (iI _)]) (c_L_promiseOf _ _ _ _ _ _ _ _ _ _ (by first | assumption | omega) (by first | assumption | omega) (by first | assumption | omega)) 3 nf_L_promiseOf.2 wL_L_73 wS_L_promiseOf wIn_L wC_L_promiseOf rfl rfl (by decide) dL_promisesHold_155 (Nat.le_of_ble_eq_true rfl) ⟨Nat.le_of_ble_eq_true rfl, Nat.le_of_ble_eq_true rfl⟩ (fun x155 u155 h155 => ?_)
                  refine j_perm (pr_1_0 _) ?_
                  have h155 : x155 = pa S p := h155.trans pO6
                  subst h155
                  refine j_iadd C dL_promisesHold_158 ?_
                  refine j_aload_n C dL_promisesHold_159 rfl ?_
                  refine j_iload C dL_promisesHold_160 rfl ?_
                  refine j_bipush C dL_promisesHold_162 (by decide) ?_
                  refine j_perm (pm_1_0 _) ?_
                  refine j_callW C XK (As := [.ref _, .int (iI _), .int (iI _)]) (c_L_promiseOf _ _ _ _ _ _ _ _ _ _ (by first | assumption | omega) (by first | assumption | omega) (by first | assumption | omega)) 3 nf_L_promiseOf.2 wL_L_73 wS_L_promiseOf wIn_L wC_L_promiseOf rfl rfl (by decide) dL_promisesHold_164 (Nat.le_of_ble_eq_true rfl) ⟨Nat.le_of_ble_eq_true rfl, Nat.le_of_ble_eq_true rfl⟩ (fun x164 u164 h164 => ?_)
                  refine j_perm (pr_1_0 _) ?_
                  have h164 : x164 = re S p := h164.trans pO7
                  subst h164
                  refine j_iadd C dL_promisesHold_167 ?_
                  refine j_icmp_ne (tgt := 175) C dL_promisesHold_168 (by decide) (by omega) (by omega) (by omega) (by omega) (fun c168 => ?_) (fun c168 => ?_)
                  · exfalso; omega
                  · refine j_iconst C dL_promisesHold_171 ?_
                    refine j_goto (tgt := 176) C dL_promisesHold_172 (by decide) ?_
                    refine j_ist_7 C dL_promisesHold_176 rfl ?_
                    refine j_iinc_8 C dL_promisesHold_178 rfl ?_
                    refine j_goto (tgt := 21) C dL_promisesHold_181 (by decide) ?_
                    exact j_lle (lv' := [_, _, _, _, _, _, _, _, _, none]) ⟨Or.inr rfl, ⟨Or.inr rfl, ⟨Or.inr rfl, ⟨Or.inr rfl, ⟨Or.inr rfl, ⟨Or.inr rfl, ⟨Or.inr rfl, ⟨Or.inr rfl, ⟨Or.inr rfl, ⟨Or.inl rfl, trivial⟩⟩⟩⟩⟩⟩⟩⟩⟩⟩ (ih21 _ _ _ _ _ _ _ _ (by omega) (by rw [sumZ_s _ hp.1, ← hs1]; rw [ht]) (by rw [sumZ_s _ hp.1, ← hs2]) (by rw [sumZ_s _ hp.1, ← hs3]) (by rw [sumZ_s _ hp.1, ← hs4]) (by rw [sumZ_s _ hp.1, ← hs5]) (by rw [sumZ_s _ hp.1, ← hs6]) (by omega))
          refine j_iload_n C dL_promisesHold_45 rfl ?_
          refine j_iload C dL_promisesHold_46 rfl ?_
          refine j_if_le (tgt := 55) C dL_promisesHold_48 (by decide) (by omega) (by omega) (fun c48 => ?_) (fun c48 => ?_)
          · refine j_iconst C dL_promisesHold_55 ?_
            exact L56 _ (by first | (rw [if_pos (by omega)]; done) | (rw [if_neg (by omega)]))
          · refine j_iconst C dL_promisesHold_51 ?_
            refine j_goto (tgt := 56) C dL_promisesHold_52 (by decide) ?_
            exact L56 _ (by first | (rw [if_pos (by omega)]; done) | (rw [if_neg (by omega)]))
  exact L21 _ _ _ _ _ _ _ _ _ (by omega) (by rfl) (by rfl) (by rfl) (by rfl) (by rfl) (by rfl) (Nat.lt_succ_self _)
set_option maxHeartbeats 4000000 in
set_option maxRecDepth 100000 in
theorem c_L_debtsHold (l : Launch) (D : va_G) (cA : Nat → ClassId) (A : AT) (c : Int) (L : LT) (S : Int → Int) (u : SC) (g : Good S) : MH (U := SC) l yL_debtsHold cL_debtsHold 10 (some .boolean) (rmN 29 0 0) D cA [.ref (A.1)] [wB cA A c L S u] (fun x _ => x = 1) (fun u => [wB cA A c L S u]) := by
  refine m_startH pn_L rfl (List.forall_mem_cons.mpr ⟨rfl, fun _ h => absurd h List.not_mem_nil⟩) (Nat.le_of_ble_eq_true rfl) ?_
  intro K C e1 e2 e3 XK hR
  subst e1 e2 e3
  have hI := g.1
  have hN := hI.2.1
  have hQ := hI.1
  have hvb := val_bd g
  have hrl := RS_len hI
  show J K 0 0 [wB (kC K) A c L S u] [some (.ref (A.1)), none, none, none, none, none, none, none, none, none] 0 []
  refine j_iconst C dL_debtsHold_0 ?_
  refine j_istn_1 C dL_debtsHold_1 rfl ?_
  refine j_iconst C dL_debtsHold_2 ?_
  refine j_istn_2 C dL_debtsHold_3 rfl ?_
  refine j_iconst C dL_debtsHold_4 ?_
  refine j_istn_3 C dL_debtsHold_5 rfl ?_
  refine j_iconst C dL_debtsHold_6 ?_
  refine j_ist_4 C dL_debtsHold_7 rfl ?_
  have L9 : ∀ (fuel : Nat) (a s1 s2 : Int) (u1 : SC) (ha : 0 ≤ a ∧ a ≤ S 0) (hs1 : s1 = sumZ (netS S) a) (hs2 : s2 = sumZ (fun p => if netS S p > 0 then netS S p else 0) a) (hf9 : (S 0 - a).toNat < fuel), J K 0 0 [wB (kC K) A c L S u1] [some (.ref (A.1)), some (.int (iI s1)), some (.int (iI s2)), some (.int (iI 1)), some (.int (iI a)), none, none, none, none, none] 9 [] := by
    intro fuel
    induction fuel with
    | zero => intro a s1 s2 u1 ha hs1 hs2 hf9; exact absurd hf9 (Nat.not_lt_zero _)
    | succ fuel ih9 =>
      intro a s1 s2 u1 ha hs1 hs2 hf9
      refine j_iload C dL_debtsHold_9 rfl ?_
      refine j_aload_n C dL_debtsHold_11 rfl ?_
      refine j_iconst C dL_debtsHold_12 ?_
      refine j_perm (pm_1_0 _) ?_
      refine j_callW C XK (As := [.ref _, .int (iI _)]) (c_L_value _ _ _ _ _ _ _ _ _ (by first | assumption | omega) (by first | assumption | omega)) 2 nf_L_value.2 wL_L_68 wS_L_value wIn_L wC_L_value rfl rfl (by decide) dL_debtsHold_13 (Nat.le_of_ble_eq_true rfl) ⟨Nat.le_of_ble_eq_true rfl, Nat.le_of_ble_eq_true rfl⟩ (fun x13 u13 h13 => ?_)
      refine j_perm (pr_1_0 _) ?_
      have h13 : x13 = S 0 := h13.trans vO0
      subst h13
      refine j_icmp_ge (tgt := 259) C dL_debtsHold_16 (by decide) (by omega) (by omega) (by omega) (by omega) (fun c16 => ?_) (fun c16 => ?_)
      · have hae : a = S 0 := by omega
        have k1 : s1 = 0 := by rw [hs1, hae]; exact net_all hI
        have k2 : s2 = gainS S := by rw [hs2, hae]; rfl
        refine j_iload_n C dL_debtsHold_259 rfl ?_
        refine j_if_eq (tgt := 281) C dL_debtsHold_260 (by decide) (by omega) (by omega) (fun c260 => ?_) (fun c260 => ?_)
        · exfalso; omega
        · refine j_iload_n C dL_debtsHold_263 rfl ?_
          refine j_if_ne (tgt := 281) C dL_debtsHold_264 (by decide) (by omega) (by omega) (fun c264 => ?_) (fun c264 => ?_)
          · exfalso; omega
          · refine j_aload_n C dL_debtsHold_267 rfl ?_
            refine j_bipush C dL_debtsHold_268 (by decide) ?_
            refine j_perm (pm_1_0 _) ?_
            refine j_callW C XK (As := [.ref _, .int (iI _)]) (c_L_value _ _ _ _ _ _ _ _ _ (by first | assumption | omega) (by first | assumption | omega)) 2 nf_L_value.2 wL_L_68 wS_L_value wIn_L wC_L_value rfl rfl (by decide) dL_debtsHold_270 (Nat.le_of_ble_eq_true rfl) ⟨Nat.le_of_ble_eq_true rfl, Nat.le_of_ble_eq_true rfl⟩ (fun x270 u270 h270 => ?_)
            refine j_perm (pr_1_0 _) ?_
            have h270 : x270 = gainS S := h270.trans vO10
            subst h270
            refine j_iload_n C dL_debtsHold_273 rfl ?_
            refine j_icmp_ne (tgt := 281) C dL_debtsHold_274 (by decide) (by omega) (by omega) (by omega) (by omega) (fun c274 => ?_) (fun c274 => ?_)
            · exfalso; omega
            · refine j_iconst C dL_debtsHold_277 ?_
              refine j_goto (tgt := 282) C dL_debtsHold_278 (by decide) ?_
              exact hR u270 dL_debtsHold_282 (by omega) (by omega) rfl (Nat.le_of_ble_eq_true rfl) (Nat.le_of_ble_eq_true rfl)
      · refine j_iload_n C dL_debtsHold_19 rfl ?_
        refine j_if_eq (tgt := 259) C dL_debtsHold_20 (by decide) (by omega) (by omega) (fun c20 => ?_) (fun c20 => ?_)
        · exfalso; omega
        · refine j_iconst C dL_debtsHold_23 ?_
          refine j_ist_5 C dL_debtsHold_24 rfl ?_
          refine j_iconst C dL_debtsHold_26 ?_
          refine j_ist_6 C dL_debtsHold_27 rfl ?_
          have L29 : ∀ (fuel : Nat) (b i1 : Int) (u2 : SC) (hb : 0 ≤ b ∧ b ≤ S 0) (hi1 : i1 = sumZ (fun b => sumZ (fun k => dF S a b k) (S 1)) b) (hf29 : (S 0 - b).toNat < fuel), J K 0 0 [wB (kC K) A c L S u2] [some (.ref (A.1)), some (.int (iI s1)), some (.int (iI s2)), some (.int (iI 1)), some (.int (iI a)), some (.int (iI i1)), some (.int (iI b)), none, none, none] 29 [] := by
            intro fuel
            induction fuel with
            | zero => intro b i1 u2 hb hi1 hf29; exact absurd hf29 (Nat.not_lt_zero _)
            | succ fuel ih29 =>
              intro b i1 u2 hb hi1 hf29
              refine j_iload C dL_debtsHold_29 rfl ?_
              refine j_aload_n C dL_debtsHold_31 rfl ?_
              refine j_iconst C dL_debtsHold_32 ?_
              refine j_perm (pm_1_0 _) ?_
              refine j_callW C XK (As := [.ref _, .int (iI _)]) (c_L_value _ _ _ _ _ _ _ _ _ (by first | assumption | omega) (by first | assumption | omega)) 2 nf_L_value.2 wL_L_68 wS_L_value wIn_L wC_L_value rfl rfl (by decide) dL_debtsHold_33 (Nat.le_of_ble_eq_true rfl) ⟨Nat.le_of_ble_eq_true rfl, Nat.le_of_ble_eq_true rfl⟩ (fun x33 u33 h33 => ?_)
              refine j_perm (pr_1_0 _) ?_
              have h33 : x33 = S 0 := h33.trans vO0
              subst h33
              refine j_icmp_ge (tgt := 213) C dL_debtsHold_36 (by decide) (by omega) (by omega) (by omega) (by omega) (fun c36 => ?_) (fun c36 => ?_)
              · have kn : i1 = netS S a := by rw [hi1, show b = S 0 by omega]; exact net_split hI a
                have kb := netS_bd hI a
                refine j_iload_n C dL_debtsHold_213 rfl ?_
                refine j_if_eq (tgt := 232) C dL_debtsHold_214 (by decide) (by omega) (by omega) (fun c214 => ?_) (fun c214 => ?_)
                · exfalso; omega
                · refine j_aload_n C dL_debtsHold_217 rfl ?_
                  refine j_iload C dL_debtsHold_218 rfl ?_
                  refine j_perm (pm_1_0 _) ?_
                  refine j_callW C XK (As := [.ref _, .int (iI _)]) (c_L_net _ _ _ _ _ _ _ _ _ (by first | assumption | omega) (by first | assumption | omega)) 2 nf_L_net.2 wL_L_78 wS_L_net wIn_L wC_L_net rfl rfl (by decide) dL_debtsHold_220 (Nat.le_of_ble_eq_true rfl) ⟨Nat.le_of_ble_eq_true rfl, Nat.le_of_ble_eq_true rfl⟩ (fun x220 u220 h220 => ?_)
                  refine j_perm (pr_1_0 _) ?_
                  subst h220
                  refine j_iload C dL_debtsHold_223 rfl ?_
                  refine j_icmp_ne (tgt := 232) C dL_debtsHold_225 (by decide) (by omega) (by omega) (by omega) (by omega) (fun c225 => ?_) (fun c225 => ?_)
                  · exfalso; omega
                  · refine j_iconst C dL_debtsHold_228 ?_
                    refine j_goto (tgt := 233) C dL_debtsHold_229 (by decide) ?_
                    refine j_istn_3 C dL_debtsHold_233 rfl ?_
                    refine j_iload_n C dL_debtsHold_234 rfl ?_
                    refine j_iload C dL_debtsHold_235 rfl ?_
                    refine j_iadd C dL_debtsHold_237 ?_
                    refine j_istn_1 C dL_debtsHold_238 rfl ?_
                    have L251 : ∀ (v4 : Int) (hv4 : v4 = if i1 > 0 then i1 else 0), J K 0 0 [wB (kC K) A c L S u220] [some (.ref (A.1)), some (.int (iI (s1 + i1))), some (.int (iI s2)), some (.int (iI 1)), some (.int (iI a)), some (.int (iI i1)), some (.int (iI b)), none, none, none] 251 [.int (iI v4), .int (iI s2)] := by
                      intro v4 hv4
                      refine j_iadd C dL_debtsHold_251 ?_
                      refine j_istn_2 C dL_debtsHold_252 rfl ?_
                      refine j_iinc_4 C dL_debtsHold_253 rfl ?_
                      refine j_goto (tgt := 9) C dL_debtsHold_256 (by decide) ?_
                      exact j_lle (lv' := [_, _, _, _, _, none, none, none, none, none]) ⟨Or.inr rfl, ⟨Or.inr rfl, ⟨Or.inr rfl, ⟨Or.inr rfl, ⟨Or.inr rfl, ⟨Or.inl rfl, ⟨Or.inl rfl, ⟨Or.inl rfl, ⟨Or.inl rfl, ⟨Or.inl rfl, trivial⟩⟩⟩⟩⟩⟩⟩⟩⟩⟩ (ih9 _ _ _ _ (by omega) (by rw [sumZ_s _ ha.1, ← hs1, ← kn]) (by rw [sumZ_s _ ha.1, ← hs2, ← kn, hv4]) (by omega))
                    refine j_iload_n C dL_debtsHold_239 rfl ?_
                    refine j_iload C dL_debtsHold_240 rfl ?_
                    refine j_if_le (tgt := 250) C dL_debtsHold_242 (by decide) (by omega) (by omega) (fun c242 => ?_) (fun c242 => ?_)
                    · refine j_iconst C dL_debtsHold_250 ?_
                      exact L251 _ (by first | (rw [if_pos (by omega)]; done) | (rw [if_neg (by omega)]))
                    · refine j_iload C dL_debtsHold_245 rfl ?_
                      refine j_goto (tgt := 251) C dL_debtsHold_247 (by decide) ?_
                      exact L251 _ (by first | (rw [if_pos (by omega)]; done) | (rw [if_neg (by omega)]))
              · refine j_iload_n C dL_debtsHold_39 rfl ?_
                refine j_if_eq (tgt := 213) C dL_debtsHold_40 (by decide) (by omega) (by omega) (fun c40 => ?_) (fun c40 => ?_)
                · exfalso; omega
                · refine j_iconst C dL_debtsHold_43 ?_
                  refine j_ist_7 C dL_debtsHold_44 rfl ?_
                  refine j_iconst C dL_debtsHold_46 ?_
                  refine j_ist_8 C dL_debtsHold_47 rfl ?_
                  have L49 : ∀ (fuel : Nat) (p t j1 : Int) (u3 : SC) (hp : 0 ≤ p ∧ p ≤ S 1) (ht : t = sumZ (debF S a b) p) (hj : j1 = i1 + sumZ (fun k => dF S a b k) p) (hf49 : (S 1 - p).toNat < fuel), J K 0 0 [wB (kC K) A c L S u3] [some (.ref (A.1)), some (.int (iI s1)), some (.int (iI s2)), some (.int (iI 1)), some (.int (iI a)), some (.int (iI j1)), some (.int (iI b)), some (.int (iI t)), some (.int (iI p)), none] 49 [] := by
                    intro fuel
                    induction fuel with
                    | zero => intro p t j1 u3 hp ht hj hf49; exact absurd hf49 (Nat.not_lt_zero _)
                    | succ fuel ih49 =>
                      intro p t j1 u3 hp ht hj hf49
                      refine j_iload C dL_debtsHold_49 rfl ?_
                      refine j_aload_n C dL_debtsHold_51 rfl ?_
                      refine j_iconst C dL_debtsHold_52 ?_
                      refine j_perm (pm_1_0 _) ?_
                      refine j_callW C XK (As := [.ref _, .int (iI _)]) (c_L_value _ _ _ _ _ _ _ _ _ (by first | assumption | omega) (by first | assumption | omega)) 2 nf_L_value.2 wL_L_68 wS_L_value wIn_L wC_L_value rfl rfl (by decide) dL_debtsHold_53 (Nat.le_of_ble_eq_true rfl) ⟨Nat.le_of_ble_eq_true rfl, Nat.le_of_ble_eq_true rfl⟩ (fun x53 u53 h53 => ?_)
                      refine j_perm (pr_1_0 _) ?_
                      have h53 : x53 = S 1 := h53.trans vO1
                      subst h53
                      refine j_icmp_ge (tgt := 188) C dL_debtsHold_56 (by decide) (by omega) (by omega) (by omega) (by omega) (fun c56 => ?_) (fun c56 => ?_)
                      · have hpe : p = S 1 := by omega
                        have kt : t = debS S a b := by rw [ht, hpe]; rfl
                        have kj : j1 - i1 = sumZ (fun k => dF S a b k) (S 1) := by rw [hj, hpe]; omega
                        have kd := debS_bd hI a b
                        refine j_aload_n C dL_debtsHold_188 rfl ?_
                        refine j_iload C dL_debtsHold_189 rfl ?_
                        refine j_iload C dL_debtsHold_191 rfl ?_
                        refine j_perm (pm_1_0 _) ?_
                        refine j_callW C XK (As := [.ref _, .int (iI _), .int (iI _)]) (c_L_debt _ _ _ _ _ _ _ _ _ _ (by first | assumption | omega) (by first | assumption | omega) (by first | assumption | omega)) 3 nf_L_debt.2 wL_L_76 wS_L_debt wIn_L wC_L_debt rfl rfl (by decide) dL_debtsHold_193 (Nat.le_of_ble_eq_true rfl) ⟨Nat.le_of_ble_eq_true rfl, Nat.le_of_ble_eq_true rfl⟩ (fun x193 u193 h193 => ?_)
                        refine j_perm (pr_1_0 _) ?_
                        subst h193
                        refine j_iload C dL_debtsHold_196 rfl ?_
                        refine j_icmp_ne (tgt := 205) C dL_debtsHold_198 (by decide) (by omega) (by omega) (by omega) (by omega) (fun c198 => ?_) (fun c198 => ?_)
                        · exfalso; omega
                        · refine j_iconst C dL_debtsHold_201 ?_
                          refine j_goto (tgt := 206) C dL_debtsHold_202 (by decide) ?_
                          refine j_istn_3 C dL_debtsHold_206 rfl ?_
                          refine j_iinc_6 C dL_debtsHold_207 rfl ?_
                          refine j_goto (tgt := 29) C dL_debtsHold_210 (by decide) ?_
                          exact j_lle (lv' := [_, _, _, _, _, _, _, none, none, none]) ⟨Or.inr rfl, ⟨Or.inr rfl, ⟨Or.inr rfl, ⟨Or.inr rfl, ⟨Or.inr rfl, ⟨Or.inr rfl, ⟨Or.inr rfl, ⟨Or.inl rfl, ⟨Or.inl rfl, ⟨Or.inl rfl, trivial⟩⟩⟩⟩⟩⟩⟩⟩⟩⟩ (ih29 _ _ _ (by omega) (by rw [sumZ_s _ hb.1, ← hi1, ← kj]; omega) (by omega))
                      · have L88 : ∀ (is : Int) (u4 : SC) (his : is = if fr S p = a ∧ tO S p = b then 1 else 0), J K 0 0 [wB (kC K) A c L S u4] [some (.ref (A.1)), some (.int (iI s1)), some (.int (iI s2)), some (.int (iI 1)), some (.int (iI a)), some (.int (iI j1)), some (.int (iI b)), some (.int (iI t)), some (.int (iI p)), none] 88 [.int (iI is)] := by
                          intro is u4 his
                          have fp := hI.2.2 p hp.1 (by omega)
                          refine j_ist_9 C dL_debtsHold_88 rfl ?_
                          have L118 : ∀ (v : Int) (u5 : SC) (hv : v = debF S a b p), J K 0 0 [wB (kC K) A c L S u5] [some (.ref (A.1)), some (.int (iI s1)), some (.int (iI s2)), some (.int (iI 1)), some (.int (iI a)), some (.int (iI j1)), some (.int (iI b)), some (.int (iI t)), some (.int (iI p)), some (.int (iI is))] 118 [.int (iI v), .int (iI t)] := by
                            intro v u5 hv
                            refine j_iadd C dL_debtsHold_118 ?_
                            refine j_ist_7 C dL_debtsHold_119 rfl ?_
                            have L139 : ∀ (v2 : Int) (u6 : SC) (hv2 : v2 = if fr S p = a ∧ tO S p = b then am S p else 0), J K 0 0 [wB (kC K) A c L S u6] [some (.ref (A.1)), some (.int (iI s1)), some (.int (iI s2)), some (.int (iI 1)), some (.int (iI a)), some (.int (iI j1)), some (.int (iI b)), some (.int (iI (t + v))), some (.int (iI p)), none] 139 [.int (iI v2), .int (iI j1)] := by
                              intro v2 u6 hv2
                              refine j_isub C dL_debtsHold_139 ?_
                              refine j_ist_5 C dL_debtsHold_140 rfl ?_
                              have L179 : ∀ (v3 : Int) (u7 : SC) (hv3 : v3 = if fr S p = b ∧ tO S p = a then am S p else 0), J K 0 0 [wB (kC K) A c L S u7] [some (.ref (A.1)), some (.int (iI s1)), some (.int (iI s2)), some (.int (iI 1)), some (.int (iI a)), none, some (.int (iI b)), some (.int (iI (t + v))), some (.int (iI p)), none] 179 [.int (iI v3), .int (iI (j1 - v2))] := by
                                intro v3 u7 hv3
                                refine j_iadd C dL_debtsHold_179 ?_
                                refine j_ist_5 C dL_debtsHold_180 rfl ?_
                                refine j_iinc_8 C dL_debtsHold_182 rfl ?_
                                refine j_goto (tgt := 49) C dL_debtsHold_185 (by decide) ?_
                                exact ih49 _ _ _ _ (by omega) (by rw [sumZ_s _ hp.1, ← ht, ← hv]) (by rw [sumZ_s _ hp.1, show dF S a b p = v3 - v2 by unfold dF; omega]; omega) (by omega)
                              refine j_iload C dL_debtsHold_142 rfl ?_
                              refine j_aload_n C dL_debtsHold_144 rfl ?_
                              refine j_iload C dL_debtsHold_145 rfl ?_
                              refine j_iconst C dL_debtsHold_147 ?_
                              refine j_perm (pm_1_0 _) ?_
                              refine j_callW C XK (As := [.ref _, .int (iI _), .int (iI _)]) (c_L_promiseOf _ _ _ _ _ _ _ _ _ _ (by first | assumption | omega) (by first | assumption | omega) (by first | assumption | omega)) 3 nf_L_promiseOf.2 wL_L_73 wS_L_promiseOf wIn_L wC_L_promiseOf rfl rfl (by decide) dL_debtsHold_148 (Nat.le_of_ble_eq_true rfl) ⟨Nat.le_of_ble_eq_true rfl, Nat.le_of_ble_eq_true rfl⟩ (fun x148 u148 h148 => ?_)
                              refine j_perm (pr_1_0 _) ?_
                              have h148 : x148 = fr S p := h148.trans pO0
                              subst h148
                              refine j_iload C dL_debtsHold_151 rfl ?_
                              refine j_icmp_ne (tgt := 178) C dL_debtsHold_153 (by decide) (by omega) (by omega) (by omega) (by omega) (fun c153 => ?_) (fun c153 => ?_)
                              · refine j_iconst C dL_debtsHold_178 ?_
                                exact j_lle (lv' := [_, _, _, _, _, none, _, _, _, none]) ⟨Or.inr rfl, ⟨Or.inr rfl, ⟨Or.inr rfl, ⟨Or.inr rfl, ⟨Or.inr rfl, ⟨Or.inl rfl, ⟨Or.inr rfl, ⟨Or.inr rfl, ⟨Or.inr rfl, ⟨Or.inl rfl, trivial⟩⟩⟩⟩⟩⟩⟩⟩⟩⟩ (L179 _ _ (by omega))
                              · refine j_aload_n C dL_debtsHold_156 rfl ?_
                                refine j_iload C dL_debtsHold_157 rfl ?_
                                refine j_iconst C dL_debtsHold_159 ?_
                                refine j_perm (pm_1_0 _) ?_
                                refine j_callW C XK (As := [.ref _, .int (iI _), .int (iI _)]) (c_L_promiseOf _ _ _ _ _ _ _ _ _ _ (by first | assumption | omega) (by first | assumption | omega) (by first | assumption | omega)) 3 nf_L_promiseOf.2 wL_L_73 wS_L_promiseOf wIn_L wC_L_promiseOf rfl rfl (by decide) dL_debtsHold_160 (Nat.le_of_ble_eq_true rfl) ⟨Nat.le_of_ble_eq_true rfl, Nat.le_of_ble_eq_true rfl⟩ (fun x160 u160 h160 => ?_)
                                refine j_perm (pr_1_0 _) ?_
                                have h160 : x160 = tO S p := h160.trans pO1
                                subst h160
                                refine j_iload C dL_debtsHold_163 rfl ?_
                                refine j_icmp_ne (tgt := 178) C dL_debtsHold_165 (by decide) (by omega) (by omega) (by omega) (by omega) (fun c165 => ?_) (fun c165 => ?_)
                                · refine j_iconst C dL_debtsHold_178 ?_
                                  exact j_lle (lv' := [_, _, _, _, _, none, _, _, _, none]) ⟨Or.inr rfl, ⟨Or.inr rfl, ⟨Or.inr rfl, ⟨Or.inr rfl, ⟨Or.inr rfl, ⟨Or.inl rfl, ⟨Or.inr rfl, ⟨Or.inr rfl, ⟨Or.inr rfl, ⟨Or.inl rfl, trivial⟩⟩⟩⟩⟩⟩⟩⟩⟩⟩ (L179 _ _ (by omega))
                                · refine j_aload_n C dL_debtsHold_168 rfl ?_
                                  refine j_iload C dL_debtsHold_169 rfl ?_
                                  refine j_iconst C dL_debtsHold_171 ?_
                                  refine j_perm (pm_1_0 _) ?_
                                  refine j_callW C XK (As := [.ref _, .int (iI _), .int (iI _)]) (c_L_promiseOf _ _ _ _ _ _ _ _ _ _ (by first | assumption | omega) (by first | assumption | omega) (by first | assumption | omega)) 3 nf_L_promiseOf.2 wL_L_73 wS_L_promiseOf wIn_L wC_L_promiseOf rfl rfl (by decide) dL_debtsHold_172 (Nat.le_of_ble_eq_true rfl) ⟨Nat.le_of_ble_eq_true rfl, Nat.le_of_ble_eq_true rfl⟩ (fun x172 u172 h172 => ?_)
                                  refine j_perm (pr_1_0 _) ?_
                                  have h172 : x172 = am S p := h172.trans pO2
                                  subst h172
                                  refine j_goto (tgt := 179) C dL_debtsHold_175 (by decide) ?_
                                  exact j_lle (lv' := [_, _, _, _, _, none, _, _, _, none]) ⟨Or.inr rfl, ⟨Or.inr rfl, ⟨Or.inr rfl, ⟨Or.inr rfl, ⟨Or.inr rfl, ⟨Or.inl rfl, ⟨Or.inr rfl, ⟨Or.inr rfl, ⟨Or.inr rfl, ⟨Or.inl rfl, trivial⟩⟩⟩⟩⟩⟩⟩⟩⟩⟩ (L179 _ _ (by omega))
                            refine j_iload C dL_debtsHold_121 rfl ?_
                            refine j_iload C dL_debtsHold_123 rfl ?_
                            refine j_if_eq (tgt := 138) C dL_debtsHold_125 (by decide) (by omega) (by omega) (fun c125 => ?_) (fun c125 => ?_)
                            · refine j_iconst C dL_debtsHold_138 ?_
                              exact j_lle (lv' := [_, _, _, _, _, _, _, _, _, none]) ⟨Or.inr rfl, ⟨Or.inr rfl, ⟨Or.inr rfl, ⟨Or.inr rfl, ⟨Or.inr rfl, ⟨Or.inr rfl, ⟨Or.inr rfl, ⟨Or.inr rfl, ⟨Or.inr rfl, ⟨Or.inl rfl, trivial⟩⟩⟩⟩⟩⟩⟩⟩⟩⟩ (L139 _ _ (by omega))
                            · refine j_aload_n C dL_debtsHold_128 rfl ?_
                              refine j_iload C dL_debtsHold_129 rfl ?_
                              refine j_iconst C dL_debtsHold_131 ?_
                              refine j_perm (pm_1_0 _) ?_
                              refine j_callW C XK (As := [.ref _, .int (iI _), .int (iI _)]) (c_L_promiseOf _ _ _ _ _ _ _ _ _ _ (by first | assumption | omega) (by first | assumption | omega) (by first | assumption | omega)) 3 nf_L_promiseOf.2 wL_L_73 wS_L_promiseOf wIn_L wC_L_promiseOf rfl rfl (by decide) dL_debtsHold_132 (Nat.le_of_ble_eq_true rfl) ⟨Nat.le_of_ble_eq_true rfl, Nat.le_of_ble_eq_true rfl⟩ (fun x132 u132 h132 => ?_)
                              refine j_perm (pr_1_0 _) ?_
                              have h132 : x132 = am S p := h132.trans pO2
                              subst h132
                              refine j_goto (tgt := 139) C dL_debtsHold_135 (by decide) ?_
                              exact j_lle (lv' := [_, _, _, _, _, _, _, _, _, none]) ⟨Or.inr rfl, ⟨Or.inr rfl, ⟨Or.inr rfl, ⟨Or.inr rfl, ⟨Or.inr rfl, ⟨Or.inr rfl, ⟨Or.inr rfl, ⟨Or.inr rfl, ⟨Or.inr rfl, ⟨Or.inl rfl, trivial⟩⟩⟩⟩⟩⟩⟩⟩⟩⟩ (L139 _ _ (by omega))
                          refine j_iload C dL_debtsHold_90 rfl ?_
                          refine j_iload C dL_debtsHold_92 rfl ?_
                          refine j_if_eq (tgt := 117) C dL_debtsHold_94 (by decide) (by omega) (by omega) (fun c94 => ?_) (fun c94 => ?_)
                          · refine j_iconst C dL_debtsHold_117 ?_
                            exact L118 _ _ (by unfold debF; omega)
                          · refine j_aload_n C dL_debtsHold_97 rfl ?_
                            refine j_iload C dL_debtsHold_98 rfl ?_
                            refine j_iconst C dL_debtsHold_100 ?_
                            refine j_perm (pm_1_0 _) ?_
                            refine j_callW C XK (As := [.ref _, .int (iI _), .int (iI _)]) (c_L_promiseOf _ _ _ _ _ _ _ _ _ _ (by first | assumption | omega) (by first | assumption | omega) (by first | assumption | omega)) 3 nf_L_promiseOf.2 wL_L_73 wS_L_promiseOf wIn_L wC_L_promiseOf rfl rfl (by decide) dL_debtsHold_101 (Nat.le_of_ble_eq_true rfl) ⟨Nat.le_of_ble_eq_true rfl, Nat.le_of_ble_eq_true rfl⟩ (fun x101 u101 h101 => ?_)
                            refine j_perm (pr_1_0 _) ?_
                            have h101 : x101 = di S p := h101.trans pO4
                            subst h101
                            refine j_if_ne (tgt := 117) C dL_debtsHold_104 (by decide) (by omega) (by omega) (fun c104 => ?_) (fun c104 => ?_)
                            · refine j_iconst C dL_debtsHold_117 ?_
                              exact L118 _ _ (by unfold debF; omega)
                            · refine j_aload_n C dL_debtsHold_107 rfl ?_
                              refine j_iload C dL_debtsHold_108 rfl ?_
                              refine j_iconst C dL_debtsHold_110 ?_
                              refine j_perm (pm_1_0 _) ?_
                              refine j_callW C XK (As := [.ref _, .int (iI _), .int (iI _)]) (c_L_promiseOf _ _ _ _ _ _ _ _ _ _ (by first | assumption | omega) (by first | assumption | omega) (by first | assumption | omega)) 3 nf_L_promiseOf.2 wL_L_73 wS_L_promiseOf wIn_L wC_L_promiseOf rfl rfl (by decide) dL_debtsHold_111 (Nat.le_of_ble_eq_true rfl) ⟨Nat.le_of_ble_eq_true rfl, Nat.le_of_ble_eq_true rfl⟩ (fun x111 u111 h111 => ?_)
                              refine j_perm (pr_1_0 _) ?_
                              have h111 : x111 = am S p := h111.trans pO2
                              subst h111
                              refine j_goto (tgt := 118) C dL_debtsHold_114 (by decide) ?_
                              exact L118 _ _ (by unfold debF; omega)
                        have fp := hI.2.2 p hp.1 (by omega)
                        refine j_aload_n C dL_debtsHold_59 rfl ?_
                        refine j_iload C dL_debtsHold_60 rfl ?_
                        refine j_iconst C dL_debtsHold_62 ?_
                        refine j_perm (pm_1_0 _) ?_
                        refine j_callW C XK (As := [.ref _, .int (iI _), .int (iI _)]) (c_L_promiseOf _ _ _ _ _ _ _ _ _ _ (by first | assumption | omega) (by first | assumption | omega) (by first | assumption | omega)) 3 nf_L_promiseOf.2 wL_L_73 wS_L_promiseOf wIn_L wC_L_promiseOf rfl rfl (by decide) dL_debtsHold_63 (Nat.le_of_ble_eq_true rfl) ⟨Nat.le_of_ble_eq_true rfl, Nat.le_of_ble_eq_true rfl⟩ (fun x63 u63 h63 => ?_)
                        refine j_perm (pr_1_0 _) ?_
                        have h63 : x63 = fr S p := h63.trans pO0
                        subst h63
                        refine j_iload C dL_debtsHold_66 rfl ?_
                        refine j_icmp_ne (tgt := 87) C dL_debtsHold_68 (by decide) (by omega) (by omega) (by omega) (by omega) (fun c68 => ?_) (fun c68 => ?_)
                        · refine j_iconst C dL_debtsHold_87 ?_
                          exact L88 _ _ (by first | (rw [if_pos (by omega)]; done) | (rw [if_neg (by omega)]))
                        · refine j_aload_n C dL_debtsHold_71 rfl ?_
                          refine j_iload C dL_debtsHold_72 rfl ?_
                          refine j_iconst C dL_debtsHold_74 ?_
                          refine j_perm (pm_1_0 _) ?_
                          refine j_callW C XK (As := [.ref _, .int (iI _), .int (iI _)]) (c_L_promiseOf _ _ _ _ _ _ _ _ _ _ (by first | assumption | omega) (by first | assumption | omega) (by first | assumption | omega)) 3 nf_L_promiseOf.2 wL_L_73 wS_L_promiseOf wIn_L wC_L_promiseOf rfl rfl (by decide) dL_debtsHold_75 (Nat.le_of_ble_eq_true rfl) ⟨Nat.le_of_ble_eq_true rfl, Nat.le_of_ble_eq_true rfl⟩ (fun x75 u75 h75 => ?_)
                          refine j_perm (pr_1_0 _) ?_
                          have h75 : x75 = tO S p := h75.trans pO1
                          subst h75
                          refine j_iload C dL_debtsHold_78 rfl ?_
                          refine j_icmp_ne (tgt := 87) C dL_debtsHold_80 (by decide) (by omega) (by omega) (by omega) (by omega) (fun c80 => ?_) (fun c80 => ?_)
                          · refine j_iconst C dL_debtsHold_87 ?_
                            exact L88 _ _ (by first | (rw [if_pos (by omega)]; done) | (rw [if_neg (by omega)]))
                          · refine j_iconst C dL_debtsHold_83 ?_
                            refine j_goto (tgt := 88) C dL_debtsHold_84 (by decide) ?_
                            exact L88 _ _ (by first | (rw [if_pos (by omega)]; done) | (rw [if_neg (by omega)]))
                  exact L49 _ _ _ _ _ (by omega) (by rfl) (by rw [sumZ_0]; omega) (Nat.lt_succ_self _)
          exact L29 _ _ _ _ (by omega) (by rfl) (Nat.lt_succ_self _)
  exact L9 _ _ _ _ _ (by omega) (by rfl) (by rfl) (Nat.lt_succ_self _)
