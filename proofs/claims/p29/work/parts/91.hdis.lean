/-! p29: dischargesOne -/
set_option maxHeartbeats 4000000 in
set_option maxRecDepth 100000 in
theorem c_L_dischargesOne (l : Launch) (D : va_G) (cA : Nat → ClassId) (A : AT) (c : Int) (L : LT) (S : Int → Int) (u : SC) (j w : Int) (g : Good S) (hc : HCL c L) (hfl : l.stackTraces = false) (hj : 0 ≤ j ∧ j ≤ 100) (hw : 1 ≤ w ∧ w ≤ 1000) (h4 : 0 ≤ S 4 ∧ S 4 ≤ 1000) : MH (U := Int × LT × (Int → Int) × SC) l yL_dischargesOne cL_dischargesOne 14 (some .boolean) (rmN 29 9 333) D cA [.ref (A.1), .int (iI j), .int (iI w)] [wB cA A c L S u] (fun x gg => x = 1 ∧ HCL gg.1 gg.2.1 ∧ Good gg.2.2.1 ∧ gg.2.2.1 0 = S 0 ∧ gg.2.2.1 1 = S 1 ∧ S 4 ≤ gg.2.2.1 4 ∧ gg.2.2.1 4 ≤ S 4 + 1) (fun gg => [wB cA A gg.1 gg.2.1 gg.2.2.1 gg.2.2.2]) := by
  refine m_startH pn_L rfl (List.forall_mem_cons.mpr ⟨rfl, List.forall_mem_cons.mpr ⟨rfl, List.forall_mem_cons.mpr ⟨rfl, fun _ h => absurd h List.not_mem_nil⟩⟩⟩) (Nat.le_of_ble_eq_true rfl) ?_
  intro K C e1 e2 e3 XK hR
  subst e1 e2 e3
  have hI := g.1
  have hN := hI.2.1
  have hQ := hI.1
  have hvb := val_bd g
  have hrl := RS_len hI
  show J K 0 0 [wB (kC K) A c L S u] [some (.ref (A.1)), some (.int (iI j)), some (.int (iI w)), none, none, none, none, none, none, none, none, none, none, none] 0 []
  refine j_aload_n C dL_dischargesOne_0 rfl ?_
  refine j_bipush C dL_dischargesOne_1 (by decide) ?_
  refine j_perm (pm_1_0 _) ?_
  refine j_callW C XK (As := [.ref _, .int (iI _)]) (c_L_value _ _ _ _ _ _ _ _ _ (by first | assumption | omega) (by first | assumption | omega)) 2 nf_L_value.2 wL_L_68 wS_L_value wIn_L wC_L_value rfl rfl (by decide) dL_dischargesOne_3 (Nat.le_of_ble_eq_true rfl) ⟨Nat.le_of_ble_eq_true rfl, Nat.le_of_ble_eq_true rfl⟩ (fun x3 u3 h3 => ?_)
  refine j_perm (pr_1_0 _) ?_
  have h3 : x3 = ((RS S).length : Int) := h3.trans vO6
  subst h3
  refine j_istn_3 C dL_dischargesOne_6 rfl ?_
  refine j_iload_n C dL_dischargesOne_7 rfl ?_
  refine j_iload_n C dL_dischargesOne_8 rfl ?_
  refine j_icmp_lt (tgt := 29) C dL_dischargesOne_9 (by decide) (by omega) (by omega) (by omega) (by omega) (fun c9 => ?_) (fun c9 => ?_)
  · obtain ⟨hpr, hl2, hl7, hft⟩ := row_all (S := S) (j := j) hI ⟨hj.1, c9⟩
    have gk := row_get hpr.1
    have hrb := room_bd hI hpr
    have hsb := savP_bd (S := S) (r := ((RS S).getD j.toNat [])) hI hl7 (amt := room S ((RS S).getD j.toNat [])) (by omega) (by omega)
    have hn0 := netS_bd hI 0
    have hn1 := netS_bd hI 1
    refine j_aload_n C dL_dischargesOne_29 rfl ?_
    refine j_iload_n C dL_dischargesOne_30 rfl ?_
    refine j_perm (pm_1_0 _) ?_
    refine j_callW C XK (As := [.ref _, .int (iI _)]) (c_L_room _ _ _ _ _ _ _ _ _ (by first | assumption | omega) (by exact ⟨hj.1, c9⟩)) 2 nf_L_room.2 wL_L_83 wS_L_room wIn_L wC_L_room rfl rfl (by decide) dL_dischargesOne_31 (Nat.le_of_ble_eq_true rfl) ⟨Nat.le_of_ble_eq_true rfl, Nat.le_of_ble_eq_true rfl⟩ (fun x31 u31 h31 => ?_)
    refine j_perm (pr_1_0 _) ?_
    have h31 : x31 = room S ((RS S).getD j.toNat []) := h31
    refine j_ist_4 C dL_dischargesOne_34 rfl ?_
    have L62 : ∀ (k : Int) (u2 : SC) (hk : k = (((RS S).getD j.toNat []).length : Int)), J K 0 0 [wB (kC K) A c L S u2] [some (.ref (A.1)), some (.int (iI j)), some (.int (iI w)), none, some (.int (iI x31)), some (.int (iI k)), none, none, none, none, none, none, none, none] 62 [] := by
      intro k u2 hk
      subst hk
      refine j_aload_n C dL_dischargesOne_62 rfl ?_
      refine j_iload_n C dL_dischargesOne_63 rfl ?_
      refine j_perm (pm_1_0 _) ?_
      refine j_callW C XK (As := [.ref _, .int (iI _)]) (c_L_saving _ _ _ _ _ _ _ _ _ (by first | assumption | omega) (by exact ⟨hj.1, c9⟩)) 2 nf_L_saving.2 wL_L_85 wS_L_saving wIn_L wC_L_saving rfl rfl (by decide) dL_dischargesOne_64 (Nat.le_of_ble_eq_true rfl) ⟨Nat.le_of_ble_eq_true rfl, Nat.le_of_ble_eq_true rfl⟩ (fun x64 u64 h64 => ?_)
      refine j_perm (pr_1_0 _) ?_
      have h64 : x64 = savP S ((RS S).getD j.toNat []) (room S ((RS S).getD j.toNat [])) := h64
      refine j_ist_6 C dL_dischargesOne_67 rfl ?_
      refine j_aload_n C dL_dischargesOne_69 rfl ?_
      refine j_iconst C dL_dischargesOne_70 ?_
      refine j_perm (pm_1_0 _) ?_
      refine j_callW C XK (As := [.ref _, .int (iI _)]) (c_L_value _ _ _ _ _ _ _ _ _ (by first | assumption | omega) (by first | assumption | omega)) 2 nf_L_value.2 wL_L_68 wS_L_value wIn_L wC_L_value rfl rfl (by decide) dL_dischargesOne_71 (Nat.le_of_ble_eq_true rfl) ⟨Nat.le_of_ble_eq_true rfl, Nat.le_of_ble_eq_true rfl⟩ (fun x71 u71 h71 => ?_)
      refine j_perm (pr_1_0 _) ?_
      have h71 : x71 = cosS S := h71.trans vO5
      subst h71
      refine j_ist_7 C dL_dischargesOne_74 rfl ?_
      refine j_aload_n C dL_dischargesOne_76 rfl ?_
      refine j_bipush C dL_dischargesOne_77 (by decide) ?_
      refine j_perm (pm_1_0 _) ?_
      refine j_callW C XK (As := [.ref _, .int (iI _)]) (c_L_value _ _ _ _ _ _ _ _ _ (by first | assumption | omega) (by first | assumption | omega)) 2 nf_L_value.2 wL_L_68 wS_L_value wIn_L wC_L_value rfl rfl (by decide) dL_dischargesOne_79 (Nat.le_of_ble_eq_true rfl) ⟨Nat.le_of_ble_eq_true rfl, Nat.le_of_ble_eq_true rfl⟩ (fun x79 u79 h79 => ?_)
      refine j_perm (pr_1_0 _) ?_
      have h79 : x79 = S 3 := h79.trans vO8
      subst h79
      refine j_ist_8 C dL_dischargesOne_82 rfl ?_
      refine j_aload_n C dL_dischargesOne_84 rfl ?_
      refine j_bipush C dL_dischargesOne_85 (by decide) ?_
      refine j_perm (pm_1_0 _) ?_
      refine j_callW C XK (As := [.ref _, .int (iI _)]) (c_L_value _ _ _ _ _ _ _ _ _ (by first | assumption | omega) (by first | assumption | omega)) 2 nf_L_value.2 wL_L_68 wS_L_value wIn_L wC_L_value rfl rfl (by decide) dL_dischargesOne_87 (Nat.le_of_ble_eq_true rfl) ⟨Nat.le_of_ble_eq_true rfl, Nat.le_of_ble_eq_true rfl⟩ (fun x87 u87 h87 => ?_)
      refine j_perm (pr_1_0 _) ?_
      have h87 : x87 = S 4 := h87.trans vO9
      subst h87
      refine j_ist_9 C dL_dischargesOne_90 rfl ?_
      refine j_aload_n C dL_dischargesOne_92 rfl ?_
      refine j_iconst C dL_dischargesOne_93 ?_
      refine j_perm (pm_1_0 _) ?_
      refine j_callW C XK (As := [.ref _, .int (iI _)]) (c_L_net _ _ _ _ _ _ _ _ _ (by first | assumption | omega) (by first | assumption | omega)) 2 nf_L_net.2 wL_L_78 wS_L_net wIn_L wC_L_net rfl rfl (by decide) dL_dischargesOne_94 (Nat.le_of_ble_eq_true rfl) ⟨Nat.le_of_ble_eq_true rfl, Nat.le_of_ble_eq_true rfl⟩ (fun x94 u94 h94 => ?_)
      refine j_perm (pr_1_0 _) ?_
      have h94 : x94 = netS S 0 := h94
      subst h94
      refine j_ist_10 C dL_dischargesOne_97 rfl ?_
      refine j_aload_n C dL_dischargesOne_99 rfl ?_
      refine j_iconst C dL_dischargesOne_100 ?_
      refine j_perm (pm_1_0 _) ?_
      refine j_callW C XK (As := [.ref _, .int (iI _)]) (c_L_net _ _ _ _ _ _ _ _ _ (by first | assumption | omega) (by first | assumption | omega)) 2 nf_L_net.2 wL_L_78 wS_L_net wIn_L wC_L_net rfl rfl (by decide) dL_dischargesOne_101 (Nat.le_of_ble_eq_true rfl) ⟨Nat.le_of_ble_eq_true rfl, Nat.le_of_ble_eq_true rfl⟩ (fun x101 u101 h101 => ?_)
      refine j_perm (pr_1_0 _) ?_
      have h101 : x101 = netS S 1 := h101
      subst h101
      refine j_ist_11 C dL_dischargesOne_104 rfl ?_
      refine j_aload_n C dL_dischargesOne_106 rfl ?_
      refine j_iload_n C dL_dischargesOne_107 rfl ?_
      refine j_iload_n C dL_dischargesOne_108 rfl ?_
      rcases (by omega : (w ≤ room S ((RS S).getD j.toNat [])) ∨ (room S ((RS S).getD j.toNat []) < w)) with q0 | q0
      · refine j_perm (pm_1_0 _) ?_
        refine j_callW C XK (As := [.ref _, .int (iI _), .int (iI _)]) (c_L_discharges _ _ _ _ _ _ _ _ _ _ (by first | assumption | omega) (by exact g.2.1) (by first | assumption | omega) (by exact ⟨hj.1, c9⟩) (by omega)) 3 nf_L_discharges.2 wL_L_104 wS_L_discharges wIn_L wC_L_discharges rfl rfl (by decide) dL_dischargesOne_109 (Nat.le_of_ble_eq_true rfl) ⟨Nat.le_of_ble_eq_true rfl, Nat.le_of_ble_eq_true rfl⟩ (fun x109 u109 h109 => ?_)
        refine j_perm (pr_1_0 _) ?_
        have hda := dis_all g hpr (amt := w) (by omega) q0
        have hx := h109.1
        obtain ⟨hcl2, -⟩ := SVd_len hc h109.2
        have hI2 := hda.1.1
        have hv2 := val_bd hda.1
        have e0 := hda.2.1
        have e1 := hda.2.2.1
        have e3 := hda.2.2.2.1
        have e4 := hda.2.2.2.2.1
        have e5 := hda.2.2.2.2.2.1
        have hsg := sav2 hI hpr (w := w) ⟨by omega, q0⟩
        have hmo := savP_mono (r := ((RS S).getD j.toNat [])) hI (x := w) (y := room S ((RS S).getD j.toNat [])) (by omega) q0
        have heq : w = room S ((RS S).getD j.toNat []) → savP S ((RS S).getD j.toNat []) w = savP S ((RS S).getD j.toNat []) (room S ((RS S).getD j.toNat [])) := fun e => by rw [← e]
        refine j_ist_12 C dL_dischargesOne_112 rfl ?_
        refine j_iload_n C dL_dischargesOne_114 rfl ?_
        refine j_iload C dL_dischargesOne_115 rfl ?_
        refine j_icmp_le (tgt := 154) C dL_dischargesOne_117 (by decide) (by omega) (by omega) (by omega) (by omega) (fun c117 => ?_) (fun c117 => ?_)
        · refine j_aload_n C dL_dischargesOne_154 rfl ?_
          refine j_iconst C dL_dischargesOne_155 ?_
          refine j_perm (pm_1_0 _) ?_
          refine j_callW C XK (As := [.ref _, .int (iI _)]) (c_L_value _ _ _ _ _ _ _ _ _ (by first | assumption | omega) (by first | assumption | omega)) 2 nf_L_value.2 wL_L_68 wS_L_value wIn_L wC_L_value rfl rfl (by decide) dL_dischargesOne_156 (Nat.le_of_ble_eq_true rfl) ⟨Nat.le_of_ble_eq_true rfl, Nat.le_of_ble_eq_true rfl⟩ (fun x156 u156 h156 => ?_)
          refine j_perm (pr_1_0 _) ?_
          have h156 : x156 = cosS S - savP S ((RS S).getD j.toNat []) w := h156.trans (vO5.trans hda.2.2.2.2.2.1)
          subst h156
          refine j_iload C dL_dischargesOne_159 rfl ?_
          refine j_iload C dL_dischargesOne_161 rfl ?_
          refine j_isub C dL_dischargesOne_163 ?_
          refine j_icmp_ne (tgt := 220) C dL_dischargesOne_164 (by decide) (by omega) (by omega) (by omega) (by omega) (fun c164 => ?_) (fun c164 => ?_)
          · exfalso; omega
          · refine j_aload_n C dL_dischargesOne_167 rfl ?_
            refine j_bipush C dL_dischargesOne_168 (by decide) ?_
            refine j_perm (pm_1_0 _) ?_
            refine j_callW C XK (As := [.ref _, .int (iI _)]) (c_L_value _ _ _ _ _ _ _ _ _ (by first | assumption | omega) (by first | assumption | omega)) 2 nf_L_value.2 wL_L_68 wS_L_value wIn_L wC_L_value rfl rfl (by decide) dL_dischargesOne_170 (Nat.le_of_ble_eq_true rfl) ⟨Nat.le_of_ble_eq_true rfl, Nat.le_of_ble_eq_true rfl⟩ (fun x170 u170 h170 => ?_)
            refine j_perm (pr_1_0 _) ?_
            have h170 : x170 = S 3 + w * (((RS S).getD j.toNat []).length : Int) := h170.trans (vO8.trans hda.2.2.2.1)
            subst h170
            refine j_iload C dL_dischargesOne_173 rfl ?_
            refine j_iload_n C dL_dischargesOne_175 rfl ?_
            refine j_iload C dL_dischargesOne_176 rfl ?_
            refine j_imul C dL_dischargesOne_178 ?_
            refine j_iadd C dL_dischargesOne_179 ?_
            refine j_icmp_ne (tgt := 220) C dL_dischargesOne_180 (by decide) (by omega) (by omega) (by omega) (by omega) (fun c180 => ?_) (fun c180 => ?_)
            · exfalso; omega
            · refine j_aload_n C dL_dischargesOne_183 rfl ?_
              refine j_bipush C dL_dischargesOne_184 (by decide) ?_
              refine j_perm (pm_1_0 _) ?_
              refine j_callW C XK (As := [.ref _, .int (iI _)]) (c_L_value _ _ _ _ _ _ _ _ _ (by first | assumption | omega) (by first | assumption | omega)) 2 nf_L_value.2 wL_L_68 wS_L_value wIn_L wC_L_value rfl rfl (by decide) dL_dischargesOne_186 (Nat.le_of_ble_eq_true rfl) ⟨Nat.le_of_ble_eq_true rfl, Nat.le_of_ble_eq_true rfl⟩ (fun x186 u186 h186 => ?_)
              refine j_perm (pr_1_0 _) ?_
              have h186 : x186 = S 4 + 1 := h186.trans (vO9.trans hda.2.2.2.2.1)
              subst h186
              refine j_iload C dL_dischargesOne_189 rfl ?_
              refine j_iconst C dL_dischargesOne_191 ?_
              refine j_iadd C dL_dischargesOne_192 ?_
              refine j_icmp_ne (tgt := 220) C dL_dischargesOne_193 (by decide) (by omega) (by omega) (by omega) (by omega) (fun c193 => ?_) (fun c193 => ?_)
              · exfalso; omega
              · refine j_aload_n C dL_dischargesOne_196 rfl ?_
                refine j_iconst C dL_dischargesOne_197 ?_
                refine j_perm (pm_1_0 _) ?_
                refine j_callW C XK (As := [.ref _, .int (iI _)]) (c_L_net _ _ _ _ _ _ _ _ _ (by first | assumption | omega) (by omega)) 2 nf_L_net.2 wL_L_78 wS_L_net wIn_L wC_L_net rfl rfl (by decide) dL_dischargesOne_198 (Nat.le_of_ble_eq_true rfl) ⟨Nat.le_of_ble_eq_true rfl, Nat.le_of_ble_eq_true rfl⟩ (fun x198 u198 h198 => ?_)
                refine j_perm (pr_1_0 _) ?_
                have h198 : x198 = netS S 0 := h198.trans (hda.2.2.2.2.2.2 0)
                subst h198
                refine j_iload C dL_dischargesOne_201 rfl ?_
                refine j_icmp_ne (tgt := 220) C dL_dischargesOne_203 (by decide) (by omega) (by omega) (by omega) (by omega) (fun c203 => ?_) (fun c203 => ?_)
                · exfalso; omega
                · refine j_aload_n C dL_dischargesOne_206 rfl ?_
                  refine j_iconst C dL_dischargesOne_207 ?_
                  refine j_perm (pm_1_0 _) ?_
                  refine j_callW C XK (As := [.ref _, .int (iI _)]) (c_L_net _ _ _ _ _ _ _ _ _ (by first | assumption | omega) (by omega)) 2 nf_L_net.2 wL_L_78 wS_L_net wIn_L wC_L_net rfl rfl (by decide) dL_dischargesOne_208 (Nat.le_of_ble_eq_true rfl) ⟨Nat.le_of_ble_eq_true rfl, Nat.le_of_ble_eq_true rfl⟩ (fun x208 u208 h208 => ?_)
                  refine j_perm (pr_1_0 _) ?_
                  have h208 : x208 = netS S 1 := h208.trans (hda.2.2.2.2.2.2 1)
                  subst h208
                  refine j_iload C dL_dischargesOne_211 rfl ?_
                  refine j_icmp_ne (tgt := 220) C dL_dischargesOne_213 (by decide) (by omega) (by omega) (by omega) (by omega) (fun c213 => ?_) (fun c213 => ?_)
                  · exfalso; omega
                  · refine j_iconst C dL_dischargesOne_216 ?_
                    refine j_goto (tgt := 221) C dL_dischargesOne_217 (by decide) ?_
                    refine j_ist_13 C dL_dischargesOne_221 rfl ?_
                    refine j_iload C dL_dischargesOne_223 rfl ?_
                    refine j_if_eq (tgt := 260) C dL_dischargesOne_225 (by decide) (by omega) (by omega) (fun c225 => ?_) (fun c225 => ?_)
                    · exfalso; omega
                    · refine j_iload C dL_dischargesOne_228 rfl ?_
                      refine j_if_le (tgt := 260) C dL_dischargesOne_230 (by decide) (by omega) (by omega) (fun c230 => ?_) (fun c230 => ?_)
                      · exfalso; omega
                      · refine j_iload_n C dL_dischargesOne_233 rfl ?_
                        refine j_iload C dL_dischargesOne_234 rfl ?_
                        refine j_icmp_ge (tgt := 249) C dL_dischargesOne_236 (by decide) (by omega) (by omega) (by omega) (by omega) (fun c236 => ?_) (fun c236 => ?_)
                        · refine j_iload C dL_dischargesOne_249 rfl ?_
                          refine j_iload C dL_dischargesOne_251 rfl ?_
                          refine j_icmp_ne (tgt := 260) C dL_dischargesOne_253 (by decide) (by omega) (by omega) (by omega) (by omega) (fun c253 => ?_) (fun c253 => ?_)
                          · exfalso; have := heq (by omega); omega
                          · refine j_iconst C dL_dischargesOne_256 ?_
                            refine j_goto (tgt := 261) C dL_dischargesOne_257 (by decide) ?_
                            refine hR (cNx c, u109.1, disR S ((RS S).getD j.toNat []) w, u208) dL_dischargesOne_261 (by omega) ?_ rfl (Nat.le_of_ble_eq_true rfl) (Nat.le_of_ble_eq_true rfl)
                            have t1 : S 4 ≤ (disR S ((RS S).getD j.toNat []) w) 4 := by omega
                            have t2 : (disR S ((RS S).getD j.toNat []) w) 4 ≤ S 4 + 1 := by omega
                            exact ⟨rfl, hcl2, hda.1, hda.2.1, hda.2.2.1, t1, t2⟩
                        · refine j_iload C dL_dischargesOne_239 rfl ?_
                          refine j_iload C dL_dischargesOne_241 rfl ?_
                          refine j_icmp_gt (tgt := 260) C dL_dischargesOne_243 (by decide) (by omega) (by omega) (by omega) (by omega) (fun c243 => ?_) (fun c243 => ?_)
                          · exfalso; omega
                          · refine j_goto (tgt := 256) C dL_dischargesOne_246 (by decide) ?_
                            refine j_iconst C dL_dischargesOne_256 ?_
                            refine j_goto (tgt := 261) C dL_dischargesOne_257 (by decide) ?_
                            refine hR (cNx c, u109.1, disR S ((RS S).getD j.toNat []) w, u208) dL_dischargesOne_261 (by omega) ?_ rfl (Nat.le_of_ble_eq_true rfl) (Nat.le_of_ble_eq_true rfl)
                            have t1 : S 4 ≤ (disR S ((RS S).getD j.toNat []) w) 4 := by omega
                            have t2 : (disR S ((RS S).getD j.toNat []) w) 4 ≤ S 4 + 1 := by omega
                            exact ⟨rfl, hcl2, hda.1, hda.2.1, hda.2.2.1, t1, t2⟩
        · exfalso; omega
      · refine j_perm (pm_1_0 _) ?_
        refine j_callW C XK (As := [.ref _, .int (iI _), .int (iI _)]) (c_L_discharges_xC _ _ _ _ _ _ _ _ _ _ (by assumption) (by first | assumption | omega) (by exact ⟨hj.1, c9⟩) (by omega) (by omega) (by omega)) 3 nf_L_discharges.2 wL_L_104 wS_L_discharges wIn_L wC_L_discharges rfl rfl (by decide) dL_dischargesOne_109 (Nat.le_of_ble_eq_true rfl) ⟨Nat.le_of_ble_eq_true rfl, Nat.le_of_ble_eq_true rfl⟩ (fun x109 u109 h109 => ?_)
        refine j_perm (pr_1_0 _) ?_
        have h109 : x109 = -2000003 := h109
        subst h109
        refine j_ist_12 C dL_dischargesOne_112 rfl ?_
        refine j_iload_n C dL_dischargesOne_114 rfl ?_
        refine j_iload C dL_dischargesOne_115 rfl ?_
        refine j_icmp_le (tgt := 154) C dL_dischargesOne_117 (by decide) (by omega) (by omega) (by omega) (by omega) (fun c117 => ?_) (fun c117 => ?_)
        · exfalso; omega
        · refine j_iload C dL_dischargesOne_120 rfl ?_
          refine j_ldc C (-2000003) (by decide) wN_L_26 dL_dischargesOne_122 ?_
          refine j_icmp_ne (tgt := 152) C dL_dischargesOne_124 (by decide) (by omega) (by omega) (by omega) (by omega) (fun c124 => ?_) (fun c124 => ?_)
          · exfalso; omega
          · refine j_aload_n C dL_dischargesOne_127 rfl ?_
            refine j_bipush C dL_dischargesOne_128 (by decide) ?_
            refine j_perm (pm_1_0 _) ?_
            refine j_callW C XK (As := [.ref _, .int (iI _)]) (c_L_value _ _ _ _ _ _ _ _ _ (by first | assumption | omega) (by first | assumption | omega)) 2 nf_L_value.2 wL_L_68 wS_L_value wIn_L wC_L_value rfl rfl (by decide) dL_dischargesOne_130 (Nat.le_of_ble_eq_true rfl) ⟨Nat.le_of_ble_eq_true rfl, Nat.le_of_ble_eq_true rfl⟩ (fun x130 u130 h130 => ?_)
            refine j_perm (pr_1_0 _) ?_
            have h130 : x130 = S 4 := h130.trans vO9
            subst h130
            refine j_iload C dL_dischargesOne_133 rfl ?_
            refine j_icmp_ne (tgt := 152) C dL_dischargesOne_135 (by decide) (by omega) (by omega) (by omega) (by omega) (fun c135 => ?_) (fun c135 => ?_)
            · exfalso; omega
            · refine j_aload_n C dL_dischargesOne_138 rfl ?_
              refine j_iconst C dL_dischargesOne_139 ?_
              refine j_perm (pm_1_0 _) ?_
              refine j_callW C XK (As := [.ref _, .int (iI _)]) (c_L_value _ _ _ _ _ _ _ _ _ (by first | assumption | omega) (by first | assumption | omega)) 2 nf_L_value.2 wL_L_68 wS_L_value wIn_L wC_L_value rfl rfl (by decide) dL_dischargesOne_140 (Nat.le_of_ble_eq_true rfl) ⟨Nat.le_of_ble_eq_true rfl, Nat.le_of_ble_eq_true rfl⟩ (fun x140 u140 h140 => ?_)
              refine j_perm (pr_1_0 _) ?_
              have h140 : x140 = cosS S := h140.trans vO5
              subst h140
              refine j_iload C dL_dischargesOne_143 rfl ?_
              refine j_icmp_ne (tgt := 152) C dL_dischargesOne_145 (by decide) (by omega) (by omega) (by omega) (by omega) (fun c145 => ?_) (fun c145 => ?_)
              · exfalso; omega
              · refine j_iconst C dL_dischargesOne_148 ?_
                refine j_goto (tgt := 153) C dL_dischargesOne_149 (by decide) ?_
                refine hR (c, L, S, u140) dL_dischargesOne_153 (by omega) ?_ rfl (Nat.le_of_ble_eq_true rfl) (Nat.le_of_ble_eq_true rfl)
                exact ⟨rfl, hc, g, rfl, rfl, Int.le_refl _, by show S 4 ≤ S 4 + 1; omega⟩
    refine j_iconst C dL_dischargesOne_36 ?_
    refine j_ist_5 C dL_dischargesOne_37 rfl ?_
    have L39 : ∀ (fuel : Nat) (k : Int) (u1 : SC) (hk : 2 ≤ k ∧ k ≤ (((RS S).getD j.toNat []).length : Int)) (hf39 : (7 - k).toNat < fuel), J K 0 0 [wB (kC K) A c L S u1] [some (.ref (A.1)), some (.int (iI j)), some (.int (iI w)), none, some (.int (iI x31)), some (.int (iI k)), none, none, none, none, none, none, none, none] 39 [] := by
      intro fuel
      induction fuel with
      | zero => intro k u1 hk hf39; exact absurd hf39 (Nat.not_lt_zero _)
      | succ fuel ih39 =>
        intro k u1 hk hf39
        refine j_iload C dL_dischargesOne_39 rfl ?_
        refine j_bipush C dL_dischargesOne_41 (by decide) ?_
        refine j_icmp_ge (tgt := 62) C dL_dischargesOne_43 (by decide) (by omega) (by omega) (by omega) (by omega) (fun c43 => ?_) (fun c43 => ?_)
        · exact L62 _ _ (by omega)
        · refine j_aload_n C dL_dischargesOne_46 rfl ?_
          refine j_iload_n C dL_dischargesOne_47 rfl ?_
          refine j_iload C dL_dischargesOne_48 rfl ?_
          refine j_perm (pm_1_0 _) ?_
          refine j_callW C XK (As := [.ref _, .int (iI _), .int (iI _)]) (c_L_ring _ _ _ _ _ _ _ _ _ _ (by first | assumption | omega) (by exact ⟨hj.1, c9⟩) (by first | assumption | omega)) 3 nf_L_ring.2 wL_L_80 wS_L_ring wIn_L wC_L_ring rfl rfl (by decide) dL_dischargesOne_50 (Nat.le_of_ble_eq_true rfl) ⟨Nat.le_of_ble_eq_true rfl, Nat.le_of_ble_eq_true rfl⟩ (fun x50 u50 h50 => ?_)
          refine j_perm (pr_1_0 _) ?_
          have h50 : x50 = ((RS S).getD j.toNat []).getD (k).toNat (-1) := h50
          have q50 := gk (k) (by omega)
          rw [← h50] at q50
          refine j_if_lt (tgt := 62) C dL_dischargesOne_53 (by decide) (by omega) (by omega) (fun c53 => ?_) (fun c53 => ?_)
          · exact L62 _ _ (by omega)
          · refine j_iinc_5 C dL_dischargesOne_56 rfl ?_
            refine j_goto (tgt := 39) C dL_dischargesOne_59 (by decide) ?_
            exact ih39 _ _ (by omega) (by omega)
    exact j_lle (lv' := [_, _, _, none, _, _, none, none, none, none, none, none, none, none]) ⟨Or.inr rfl, ⟨Or.inr rfl, ⟨Or.inr rfl, ⟨Or.inl rfl, ⟨Or.inr rfl, ⟨Or.inr rfl, ⟨Or.inl rfl, ⟨Or.inl rfl, ⟨Or.inl rfl, ⟨Or.inl rfl, ⟨Or.inl rfl, ⟨Or.inl rfl, ⟨Or.inl rfl, ⟨Or.inl rfl, trivial⟩⟩⟩⟩⟩⟩⟩⟩⟩⟩⟩⟩⟩⟩ (L39 _ _ _ (by omega) (Nat.lt_succ_self _))
  · refine j_aload_n C dL_dischargesOne_12 rfl ?_
    refine j_iload_n C dL_dischargesOne_13 rfl ?_
    refine j_iload_n C dL_dischargesOne_14 rfl ?_
    refine j_perm (pm_1_0 _) ?_
    refine j_callW C XK (As := [.ref _, .int (iI _), .int (iI _)]) (c_L_discharges_xB _ _ _ _ _ _ _ _ _ _ (by assumption) (by first | assumption | omega) (by omega) (by omega)) 3 nf_L_discharges.2 wL_L_104 wS_L_discharges wIn_L wC_L_discharges rfl rfl (by decide) dL_dischargesOne_15 (Nat.le_of_ble_eq_true rfl) ⟨Nat.le_of_ble_eq_true rfl, Nat.le_of_ble_eq_true rfl⟩ (fun x15 u15 h15 => ?_)
    refine j_perm (pr_1_0 _) ?_
    have h15 : x15 = -2000001 := h15
    subst h15
    refine j_ldc C (-2000001) (by decide) wN_L_16 dL_dischargesOne_18 ?_
    refine j_icmp_ne (tgt := 27) C dL_dischargesOne_20 (by decide) (by omega) (by omega) (by omega) (by omega) (fun c20 => ?_) (fun c20 => ?_)
    · exfalso; omega
    · refine j_iconst C dL_dischargesOne_23 ?_
      refine j_goto (tgt := 28) C dL_dischargesOne_24 (by decide) ?_
      refine hR (c, L, S, u15) dL_dischargesOne_28 (by omega) ?_ rfl (Nat.le_of_ble_eq_true rfl) (Nat.le_of_ble_eq_true rfl)
      exact ⟨rfl, hc, g, rfl, rfl, Int.le_refl _, by show S 4 ≤ S 4 + 1; omega⟩
