/-! p29: the law: its end, its loops -/
theorem Inz_cp {S T : Int → Int} (h : Inz S) : Inz (cpS T S) := fun k h0 h1 => by
  have e : di (cpS T S) k = di S k := if_pos (by omega)
  rw [e]
  exact h k h0 h1
def LF7 (k c : Int) (L : LT) (S : Int → Int) : Prop := Good S ∧ HCL c L ∧ (3 ≤ S 0 ∧ S 0 ≤ 6) ∧ S 1 = k ∧ S 4 = 0
set_option maxHeartbeats 1600000 in
set_option maxRecDepth 100000 in
theorem c_law_end {K : KT} (C : Cx K cL_law 19 RL (some .boolean) room_1) (XK : WX K) (hfl : (kl K).stackTraces = false) {b0 Ls : Nat} {xs : Nat → Int32} (hX : va_X b0 Ls xs (ks K) (ks K).heap) (hbl : b0 < (ks K).heap.size) (hbA : ¬ kA K b0) (hL : Ls ≤ 260) {A : AT} (hend : ∀ {ce sl : Nat} {lv : List (Option Value)} {ws : List va_W}, ce ≤ 600104 → sl ≤ 7301314 → J K ce sl ws lv 867 [.int (iI 1)]) {ce sl : Nat} (hce : ce ≤ 2000) (hsl : sl ≤ 100000) {c : Int} {L : LT} {S : Int → Int} {u : SC} (hrel : LY 14 c L S) : J K ce sl [wB (kC K) A c L S u] [some (.ref b0), some (.ref A.1), some (.int (iI 1)), none, none, none, none, none, none, none, none, none, none, none, none, none, none, none, none] 674 [] := by
  obtain ⟨g, hc, h0, h1, h4⟩ := id hrel
  have hI := g.1
  have hz := g.2.1
  have hN := hI.2.1
  have hrl := RS_len hI
  refine j_aload_n C dL_law_674 rfl ?_
  refine ib_digest C hI wL_L_140 rfl ⟨by decide, by decide⟩ dL_law_675 (Nat.le_of_ble_eq_true rfl) ⟨by dsimp only [rmN, room_1]; omega, by dsimp only [rmN, room_1]; omega⟩ (fun u675 => ?_)
  refine j_lstn_3 C dL_law_678 rfl ?_
  refine j_iload_n C dL_law_679 rfl ?_
  refine j_if_eq (tgt := 762) C dL_law_680 (by decide) (by omega) (by omega) (fun c680 => ?_) (fun c680 => ?_)
  · exfalso; omega
  · refine j_aload_n C dL_law_683 rfl ?_
    refine j_bipush C dL_law_684 (by decide) ?_
    refine j_perm (pm_1_0 _) ?_
    refine j_callW C XK (As := [.ref _, .int (iI _)]) (c_L_begins_xA _ _ _ _ _ _ _ _ _ (by assumption) (by first | assumption | omega) (by first | assumption | omega)) 2 nf_L_begins.2 wL_L_115 wS_L_begins wIn_L wC_L_begins rfl rfl (by decide) dL_law_686 (Nat.le_of_ble_eq_true rfl) ⟨by dsimp only [rmN, room_1]; omega, by dsimp only [rmN, room_1]; omega⟩ (fun x686 u686 h686 => ?_)
    refine j_perm (pr_1_0 _) ?_
    have h686 : x686 = -2000001 := h686
    subst h686
    refine j_ldc C (-2000001) (by decide) wN_L_16 dL_law_689 ?_
    refine j_icmp_ne (tgt := 762) C dL_law_691 (by decide) (by omega) (by omega) (by omega) (by omega) (fun c691 => ?_) (fun c691 => ?_)
    · exfalso; omega
    · refine j_aload_n C dL_law_694 rfl ?_
      refine j_iconst C dL_law_695 ?_
      refine j_bipush C dL_law_696 (by decide) ?_
      refine j_iconst C dL_law_698 ?_
      refine j_iconst C dL_law_699 ?_
      refine j_perm (pm_1_0 _) ?_
      refine j_callW C XK (As := [.ref _, .int (iI _), .int (iI _), .int (iI _), .int (iI _)]) (c_L_promises_xB _ _ _ _ _ _ _ _ _ _ _ _ (by assumption) (by first | assumption | omega) (by first | assumption | omega) (by first | assumption | omega) (by first | assumption | omega)) 5 nf_L_promises.2 wL_L_119 wS_L_promises wIn_L wC_L_promises rfl rfl (by decide) dL_law_700 (Nat.le_of_ble_eq_true rfl) ⟨by dsimp only [rmN, room_1]; omega, by dsimp only [rmN, room_1]; omega⟩ (fun x700 u700 h700 => ?_)
      refine j_perm (pr_1_0 _) ?_
      have h700 : x700 = -2000001 := h700
      subst h700
      refine j_ldc C (-2000001) (by decide) wN_L_16 dL_law_703 ?_
      refine j_icmp_ne (tgt := 762) C dL_law_705 (by decide) (by omega) (by omega) (by omega) (by omega) (fun c705 => ?_) (fun c705 => ?_)
      · exfalso; omega
      · refine j_aload_n C dL_law_708 rfl ?_
        refine j_iconst C dL_law_709 ?_
        refine j_iconst C dL_law_710 ?_
        refine j_iconst C dL_law_711 ?_
        refine j_iconst C dL_law_712 ?_
        refine j_perm (pm_1_0 _) ?_
        refine j_callW C XK (As := [.ref _, .int (iI _), .int (iI _), .int (iI _), .int (iI _)]) (c_L_promises_xA _ _ _ _ _ _ _ _ _ _ _ _ (by assumption) (by first | assumption | omega) (by first | assumption | omega) (by first | assumption | omega) (by first | assumption | omega) (by first | assumption | omega) (by first | assumption | omega)) 5 nf_L_promises.2 wL_L_119 wS_L_promises wIn_L wC_L_promises rfl rfl (by decide) dL_law_713 (Nat.le_of_ble_eq_true rfl) ⟨by dsimp only [rmN, room_1]; omega, by dsimp only [rmN, room_1]; omega⟩ (fun x713 u713 h713 => ?_)
        refine j_perm (pr_1_0 _) ?_
        have h713 : x713 = -2000002 := h713
        subst h713
        refine j_ldc C (-2000002) (by decide) wN_L_23 dL_law_716 ?_
        refine j_icmp_ne (tgt := 762) C dL_law_718 (by decide) (by omega) (by omega) (by omega) (by omega) (fun c718 => ?_) (fun c718 => ?_)
        · exfalso; omega
        · refine j_aload_n C dL_law_721 rfl ?_
          refine j_iconst C dL_law_722 ?_
          refine j_iconst C dL_law_723 ?_
          refine j_sipush C dL_law_724 (by decide) ?_
          refine j_iconst C dL_law_727 ?_
          refine j_perm (pm_1_0 _) ?_
          refine j_callW C XK (As := [.ref _, .int (iI _), .int (iI _), .int (iI _), .int (iI _)]) (c_L_promises_xA _ _ _ _ _ _ _ _ _ _ _ _ (by assumption) (by first | assumption | omega) (by first | assumption | omega) (by first | assumption | omega) (by first | assumption | omega) (by first | assumption | omega) (by first | assumption | omega)) 5 nf_L_promises.2 wL_L_119 wS_L_promises wIn_L wC_L_promises rfl rfl (by decide) dL_law_728 (Nat.le_of_ble_eq_true rfl) ⟨by dsimp only [rmN, room_1]; omega, by dsimp only [rmN, room_1]; omega⟩ (fun x728 u728 h728 => ?_)
          refine j_perm (pr_1_0 _) ?_
          have h728 : x728 = -2000002 := h728
          subst h728
          refine j_ldc C (-2000002) (by decide) wN_L_23 dL_law_731 ?_
          refine j_icmp_ne (tgt := 762) C dL_law_733 (by decide) (by omega) (by omega) (by omega) (by omega) (fun c733 => ?_) (fun c733 => ?_)
          · exfalso; omega
          · refine j_aload_n C dL_law_736 rfl ?_
            refine j_iconst C dL_law_737 ?_
            refine j_iconst C dL_law_738 ?_
            refine j_perm (pm_1_0 _) ?_
            refine j_callW C XK (As := [.ref _, .int (iI _), .int (iI _)]) (c_L_pays_xA _ _ _ _ _ _ _ _ _ _ (by assumption) (by first | assumption | omega) (by first | assumption | omega) (by first | assumption | omega) (by first | assumption | omega)) 3 nf_L_pays.2 wL_L_123 wS_L_pays wIn_L wC_L_pays rfl rfl (by decide) dL_law_739 (Nat.le_of_ble_eq_true rfl) ⟨by dsimp only [rmN, room_1]; omega, by dsimp only [rmN, room_1]; omega⟩ (fun x739 u739 h739 => ?_)
            refine j_perm (pr_1_0 _) ?_
            have h739 : x739 = -2000002 := h739
            subst h739
            refine j_ldc C (-2000002) (by decide) wN_L_23 dL_law_742 ?_
            refine j_icmp_ne (tgt := 762) C dL_law_744 (by decide) (by omega) (by omega) (by omega) (by omega) (fun c744 => ?_) (fun c744 => ?_)
            · exfalso; omega
            · refine j_aload_n C dL_law_747 rfl ?_
              refine j_iconst C dL_law_748 ?_
              refine j_iconst C dL_law_749 ?_
              refine j_perm (pm_1_0 _) ?_
              refine j_callW C XK (As := [.ref _, .int (iI _), .int (iI _)]) (c_L_pays_xB _ _ _ _ _ _ _ _ _ _ (by assumption) (by first | assumption | omega) (by first | assumption | omega) (by first | assumption | omega)) 3 nf_L_pays.2 wL_L_123 wS_L_pays wIn_L wC_L_pays rfl rfl (by decide) dL_law_750 (Nat.le_of_ble_eq_true rfl) ⟨by dsimp only [rmN, room_1]; omega, by dsimp only [rmN, room_1]; omega⟩ (fun x750 u750 h750 => ?_)
              refine j_perm (pr_1_0 _) ?_
              have h750 : x750 = -2000001 := h750
              subst h750
              refine j_ldc C (-2000001) (by decide) wN_L_16 dL_law_753 ?_
              refine j_icmp_ne (tgt := 762) C dL_law_755 (by decide) (by omega) (by omega) (by omega) (by omega) (fun c755 => ?_) (fun c755 => ?_)
              · exfalso; omega
              · refine j_iconst C dL_law_758 ?_
                refine j_goto (tgt := 763) C dL_law_759 (by decide) ?_
                refine j_istn_2 C dL_law_763 rfl ?_
                refine j_iload_n C dL_law_764 rfl ?_
                refine j_if_eq (tgt := 806) C dL_law_765 (by decide) (by omega) (by omega) (fun c765 => ?_) (fun c765 => ?_)
                · exfalso; omega
                · refine j_aload_n C dL_law_768 rfl ?_
                  refine j_sipush C dL_law_769 (by decide) ?_
                  refine j_iconst C dL_law_772 ?_
                  refine j_perm (pm_1_0 _) ?_
                  refine j_callW C XK (As := [.ref _, .int (iI _), .int (iI _)]) (c_L_discharges_xB _ _ _ _ _ _ _ _ _ _ (by assumption) (by first | assumption | omega) (by first | assumption | omega) (by first | assumption | omega)) 3 nf_L_discharges.2 wL_L_104 wS_L_discharges wIn_L wC_L_discharges rfl rfl (by decide) dL_law_773 (Nat.le_of_ble_eq_true rfl) ⟨by dsimp only [rmN, room_1]; omega, by dsimp only [rmN, room_1]; omega⟩ (fun x773 u773 h773 => ?_)
                  refine j_perm (pr_1_0 _) ?_
                  have h773 : x773 = -2000001 := h773
                  subst h773
                  refine j_ldc C (-2000001) (by decide) wN_L_16 dL_law_776 ?_
                  refine j_icmp_ne (tgt := 806) C dL_law_778 (by decide) (by omega) (by omega) (by omega) (by omega) (fun c778 => ?_) (fun c778 => ?_)
                  · exfalso; omega
                  · refine j_aload_n C dL_law_781 rfl ?_
                    refine j_iconst C dL_law_782 ?_
                    refine j_bipush C dL_law_783 (by decide) ?_
                    rcases (by omega : (0 < ((RS S).length : Int)) ∨ (((RS S).length : Int) ≤ 0)) with q0 | q0
                    · refine j_perm (pm_1_0 _) ?_
                      refine j_callW C XK (As := [.ref _, .int (iI _), .int (iI _)]) (c_L_ring_xA _ _ _ _ _ _ _ _ _ _ (by assumption) (by first | assumption | omega) (by first | assumption | omega) (by first | assumption | omega) (by first | assumption | omega)) 3 nf_L_ring.2 wL_L_80 wS_L_ring wIn_L wC_L_ring rfl rfl (by decide) dL_law_785 (Nat.le_of_ble_eq_true rfl) ⟨by dsimp only [rmN, room_1]; omega, by dsimp only [rmN, room_1]; omega⟩ (fun x785 u785 h785 => ?_)
                      refine j_perm (pr_1_0 _) ?_
                      have h785 : x785 = -2000002 := h785
                      subst h785
                      refine j_ldc C (-2000000) (by decide) wN_L_144 dL_law_788 ?_
                      refine j_icmp_ge (tgt := 806) C dL_law_790 (by decide) (by omega) (by omega) (by omega) (by omega) (fun c790 => ?_) (fun c790 => ?_)
                      · exfalso; omega
                      · refine j_aload_n C dL_law_793 rfl ?_
                        refine ib_digest C hI wL_L_140 rfl ⟨by decide, by decide⟩ dL_law_794 (Nat.le_of_ble_eq_true rfl) ⟨by dsimp only [rmN, room_1]; omega, by dsimp only [rmN, room_1]; omega⟩ (fun u794 => ?_)
                        refine j_lload_n C dL_law_797 rfl ?_
                        refine j_lcmpE C dL_law_798 (by rfl) ?_
                        refine j_if_ne (tgt := 806) C dL_law_799 (by decide) (by omega) (by omega) (fun c799 => ?_) (fun c799 => ?_)
                        · exfalso; omega
                        · refine j_iconst C dL_law_802 ?_
                          refine j_goto (tgt := 807) C dL_law_803 (by decide) ?_
                          refine j_istn_2 C dL_law_807 rfl ?_
                          refine j_aload_n C dL_law_808 rfl ?_
                          refine j_iconst C dL_law_809 ?_
                          refine j_perm (pm_1_0 _) ?_
                          refine j_callW C XK (As := [.ref _, .int (iI _)]) (c_L_value _ _ _ _ _ _ _ _ _ (by first | assumption | omega) (by first | assumption | omega)) 2 nf_L_value.2 wL_L_68 wS_L_value wIn_L wC_L_value rfl rfl (by decide) dL_law_810 (Nat.le_of_ble_eq_true rfl) ⟨by dsimp only [rmN, room_1]; omega, by dsimp only [rmN, room_1]; omega⟩ (fun x810 u810 h810 => ?_)
                          refine j_perm (pr_1_0 _) ?_
                          have h810 : x810 = S 1 := h810.trans vO1
                          subst h810
                          refine j_ist_5 C dL_law_813 rfl ?_
                          refine j_iload_n C dL_law_815 rfl ?_
                          refine j_if_eq (tgt := 866) C dL_law_816 (by decide) (by omega) (by omega) (fun c816 => ?_) (fun c816 => ?_)
                          · exfalso; omega
                          · refine j_aload_n C dL_law_819 rfl ?_
                            refine j_iconst C dL_law_820 ?_
                            refine j_perm (pm_1_0 _) ?_
                            refine j_callW C XK (As := [.ref _, .int (iI _)]) (c_L_begins _ _ _ _ _ _ _ _ _ (by first | assumption | omega) (by exact hz) (by first | assumption | omega) (by first | assumption | omega)) 2 nf_L_begins.2 wL_L_115 wS_L_begins wIn_L wC_L_begins rfl rfl (by decide) dL_law_821 (Nat.le_of_ble_eq_true rfl) ⟨by dsimp only [rmN, room_1]; omega, by dsimp only [rmN, room_1]; omega⟩ (fun x821 u821 h821 => ?_)
                            refine j_perm (pr_1_0 _) ?_
                            have h821x : x821 = S 1 := h821.1
                            obtain ⟨hcl, kk9, T9, L3, L4, hL9, hc9⟩ := SVd_len hc h821.2
                            have g2 := Good_rst (p := 2) hz (by omega)
                            have hI2 := g2.1
                            have e9 : ∀ j : Int, j < 325 → (cpS (rstP S 2) (cpS T9 S)) j = S j := fun j h => by unfold cpS; rw [if_pos h, if_pos h]
                            have g9 : Good (cpS (rstP S 2) (cpS T9 S)) := Good_eq (fun j _ h _ => e9 j h) g
                            have hI9 := g9.1
                            have hc4 := hcl.2.1
                            rw [hL9]
                            refine j_iload C dL_law_824 rfl ?_
                            refine j_icmp_ne (tgt := 866) C dL_law_826 (by decide) (by omega) (by omega) (by omega) (by omega) (fun c826 => ?_) (fun c826 => ?_)
                            · exfalso; omega
                            · refine j_aload_n C dL_law_829 rfl ?_
                              refine j_bipush C dL_law_830 (by decide) ?_
                              refine j_perm (pm_1_0 _) ?_
                              refine j_callW C XK (As := [.ref _, .int (iI _)]) (c_L_value _ _ _ _ _ _ _ _ _ (by exact hI2) (by first | assumption | omega)) 2 nf_L_value.2 wL_L_68 wS_L_value wIn_L wC_L_value rfl rfl (by decide) dL_law_832 (Nat.le_of_ble_eq_true rfl) ⟨by dsimp only [rmN, room_1]; omega, by dsimp only [rmN, room_1]; omega⟩ (fun x832 u832 h832 => ?_)
                              refine j_perm (pr_1_0 _) ?_
                              have h832 : x832 = 0 := h832.trans (vO9.trans rfl)
                              subst h832
                              refine j_if_ne (tgt := 866) C dL_law_835 (by decide) (by omega) (by omega) (fun c835 => ?_) (fun c835 => ?_)
                              · exfalso; omega
                              · refine j_aload_n C dL_law_838 rfl ?_
                                refine j_perm (pm_1_0 _) ?_
                                refine j_callW C XK (As := [.ref _]) (c_L_undoes _ _ _ _ _ _ _ _ _ _ _ (by exact Inz_cp hz) (by exact ⟨hc9, hc4⟩)) 1 nf_L_undoes.2 wL_L_145 wS_L_undoes wIn_L wC_L_undoes rfl rfl (by decide) dL_law_839 (Nat.le_of_ble_eq_true rfl) ⟨by dsimp only [rmN, room_1]; omega, by dsimp only [rmN, room_1]; omega⟩ (fun x839 u839 h839 => ?_)
                                refine j_perm (pr_1_0 _) ?_
                                have h839 : x839 = cNx c - 1 := h839
                                refine j_if_lt (tgt := 866) C dL_law_842 (by decide) (by omega) (by omega) (fun c842 => ?_) (fun c842 => ?_)
                                · exfalso; omega
                                · refine j_aload_n C dL_law_845 rfl ?_
                                  refine j_iconst C dL_law_846 ?_
                                  refine j_perm (pm_1_0 _) ?_
                                  refine j_callW C XK (As := [.ref _, .int (iI _)]) (c_L_value _ _ _ _ _ _ _ _ _ (by exact hI9) (by first | assumption | omega)) 2 nf_L_value.2 wL_L_68 wS_L_value wIn_L wC_L_value rfl rfl (by decide) dL_law_847 (Nat.le_of_ble_eq_true rfl) ⟨by dsimp only [rmN, room_1]; omega, by dsimp only [rmN, room_1]; omega⟩ (fun x847 u847 h847 => ?_)
                                  refine j_perm (pr_1_0 _) ?_
                                  have h847 : x847 = S 1 := h847.trans (vO1.trans (e9 1 (by omega)))
                                  refine j_iload C dL_law_850 rfl ?_
                                  refine j_icmp_ne (tgt := 866) C dL_law_852 (by decide) (by omega) (by omega) (by omega) (by omega) (fun c852 => ?_) (fun c852 => ?_)
                                  · exfalso; omega
                                  · refine j_aload_n C dL_law_855 rfl ?_
                                    refine j_perm (pm_1_0 _) ?_
                                    refine j_callH C XK (As := [.ref _]) (c_L_holds _ _ _ _ _ _ _ _ (by exact g9) (by assumption)) 1 nf_L_holds.2 wL_L_108 wS_L_holds wIn_L wC_L_holds rfl rfl (by decide) dL_law_856 (Nat.le_of_ble_eq_true rfl) ⟨by dsimp only [rmN, room_1]; omega, by dsimp only [rmN, room_1]; omega⟩ (fun x856 u856 h856 => ?_)
                                    refine j_perm (pr_1_0 _) ?_
                                    have h856 : x856 = 1 := h856
                                    subst h856
                                    refine j_if_eq (tgt := 866) C dL_law_859 (by decide) (by omega) (by omega) (fun c859 => ?_) (fun c859 => ?_)
                                    · exfalso; omega
                                    · refine j_iconst C dL_law_862 ?_
                                      refine j_goto (tgt := 867) C dL_law_863 (by decide) ?_
                                      exact hend (by first | omega | (dsimp only [rmN]; omega)) (by first | omega | (dsimp only [rmN]; omega))
                    · refine j_perm (pm_1_0 _) ?_
                      refine j_callW C XK (As := [.ref _, .int (iI _), .int (iI _)]) (c_L_ring_xB _ _ _ _ _ _ _ _ _ _ (by assumption) (by first | assumption | omega) (by first | assumption | omega) (by first | assumption | omega)) 3 nf_L_ring.2 wL_L_80 wS_L_ring wIn_L wC_L_ring rfl rfl (by decide) dL_law_785 (Nat.le_of_ble_eq_true rfl) ⟨by dsimp only [rmN, room_1]; omega, by dsimp only [rmN, room_1]; omega⟩ (fun x785 u785 h785 => ?_)
                      refine j_perm (pr_1_0 _) ?_
                      have h785 : x785 = -2000001 := h785
                      subst h785
                      refine j_ldc C (-2000000) (by decide) wN_L_144 dL_law_788 ?_
                      refine j_icmp_ge (tgt := 806) C dL_law_790 (by decide) (by omega) (by omega) (by omega) (by omega) (fun c790 => ?_) (fun c790 => ?_)
                      · exfalso; omega
                      · refine j_aload_n C dL_law_793 rfl ?_
                        refine ib_digest C hI wL_L_140 rfl ⟨by decide, by decide⟩ dL_law_794 (Nat.le_of_ble_eq_true rfl) ⟨by dsimp only [rmN, room_1]; omega, by dsimp only [rmN, room_1]; omega⟩ (fun u794 => ?_)
                        refine j_lload_n C dL_law_797 rfl ?_
                        refine j_lcmpE C dL_law_798 (by rfl) ?_
                        refine j_if_ne (tgt := 806) C dL_law_799 (by decide) (by omega) (by omega) (fun c799 => ?_) (fun c799 => ?_)
                        · exfalso; omega
                        · refine j_iconst C dL_law_802 ?_
                          refine j_goto (tgt := 807) C dL_law_803 (by decide) ?_
                          refine j_istn_2 C dL_law_807 rfl ?_
                          refine j_aload_n C dL_law_808 rfl ?_
                          refine j_iconst C dL_law_809 ?_
                          refine j_perm (pm_1_0 _) ?_
                          refine j_callW C XK (As := [.ref _, .int (iI _)]) (c_L_value _ _ _ _ _ _ _ _ _ (by first | assumption | omega) (by first | assumption | omega)) 2 nf_L_value.2 wL_L_68 wS_L_value wIn_L wC_L_value rfl rfl (by decide) dL_law_810 (Nat.le_of_ble_eq_true rfl) ⟨by dsimp only [rmN, room_1]; omega, by dsimp only [rmN, room_1]; omega⟩ (fun x810 u810 h810 => ?_)
                          refine j_perm (pr_1_0 _) ?_
                          have h810 : x810 = S 1 := h810.trans vO1
                          subst h810
                          refine j_ist_5 C dL_law_813 rfl ?_
                          refine j_iload_n C dL_law_815 rfl ?_
                          refine j_if_eq (tgt := 866) C dL_law_816 (by decide) (by omega) (by omega) (fun c816 => ?_) (fun c816 => ?_)
                          · exfalso; omega
                          · refine j_aload_n C dL_law_819 rfl ?_
                            refine j_iconst C dL_law_820 ?_
                            refine j_perm (pm_1_0 _) ?_
                            refine j_callW C XK (As := [.ref _, .int (iI _)]) (c_L_begins _ _ _ _ _ _ _ _ _ (by first | assumption | omega) (by exact hz) (by first | assumption | omega) (by first | assumption | omega)) 2 nf_L_begins.2 wL_L_115 wS_L_begins wIn_L wC_L_begins rfl rfl (by decide) dL_law_821 (Nat.le_of_ble_eq_true rfl) ⟨by dsimp only [rmN, room_1]; omega, by dsimp only [rmN, room_1]; omega⟩ (fun x821 u821 h821 => ?_)
                            refine j_perm (pr_1_0 _) ?_
                            have h821x : x821 = S 1 := h821.1
                            obtain ⟨hcl, kk9, T9, L3, L4, hL9, hc9⟩ := SVd_len hc h821.2
                            have g2 := Good_rst (p := 2) hz (by omega)
                            have hI2 := g2.1
                            have e9 : ∀ j : Int, j < 325 → (cpS (rstP S 2) (cpS T9 S)) j = S j := fun j h => by unfold cpS; rw [if_pos h, if_pos h]
                            have g9 : Good (cpS (rstP S 2) (cpS T9 S)) := Good_eq (fun j _ h _ => e9 j h) g
                            have hI9 := g9.1
                            have hc4 := hcl.2.1
                            rw [hL9]
                            refine j_iload C dL_law_824 rfl ?_
                            refine j_icmp_ne (tgt := 866) C dL_law_826 (by decide) (by omega) (by omega) (by omega) (by omega) (fun c826 => ?_) (fun c826 => ?_)
                            · exfalso; omega
                            · refine j_aload_n C dL_law_829 rfl ?_
                              refine j_bipush C dL_law_830 (by decide) ?_
                              refine j_perm (pm_1_0 _) ?_
                              refine j_callW C XK (As := [.ref _, .int (iI _)]) (c_L_value _ _ _ _ _ _ _ _ _ (by exact hI2) (by first | assumption | omega)) 2 nf_L_value.2 wL_L_68 wS_L_value wIn_L wC_L_value rfl rfl (by decide) dL_law_832 (Nat.le_of_ble_eq_true rfl) ⟨by dsimp only [rmN, room_1]; omega, by dsimp only [rmN, room_1]; omega⟩ (fun x832 u832 h832 => ?_)
                              refine j_perm (pr_1_0 _) ?_
                              have h832 : x832 = 0 := h832.trans (vO9.trans rfl)
                              subst h832
                              refine j_if_ne (tgt := 866) C dL_law_835 (by decide) (by omega) (by omega) (fun c835 => ?_) (fun c835 => ?_)
                              · exfalso; omega
                              · refine j_aload_n C dL_law_838 rfl ?_
                                refine j_perm (pm_1_0 _) ?_
                                refine j_callW C XK (As := [.ref _]) (c_L_undoes _ _ _ _ _ _ _ _ _ _ _ (by exact Inz_cp hz) (by exact ⟨hc9, hc4⟩)) 1 nf_L_undoes.2 wL_L_145 wS_L_undoes wIn_L wC_L_undoes rfl rfl (by decide) dL_law_839 (Nat.le_of_ble_eq_true rfl) ⟨by dsimp only [rmN, room_1]; omega, by dsimp only [rmN, room_1]; omega⟩ (fun x839 u839 h839 => ?_)
                                refine j_perm (pr_1_0 _) ?_
                                have h839 : x839 = cNx c - 1 := h839
                                refine j_if_lt (tgt := 866) C dL_law_842 (by decide) (by omega) (by omega) (fun c842 => ?_) (fun c842 => ?_)
                                · exfalso; omega
                                · refine j_aload_n C dL_law_845 rfl ?_
                                  refine j_iconst C dL_law_846 ?_
                                  refine j_perm (pm_1_0 _) ?_
                                  refine j_callW C XK (As := [.ref _, .int (iI _)]) (c_L_value _ _ _ _ _ _ _ _ _ (by exact hI9) (by first | assumption | omega)) 2 nf_L_value.2 wL_L_68 wS_L_value wIn_L wC_L_value rfl rfl (by decide) dL_law_847 (Nat.le_of_ble_eq_true rfl) ⟨by dsimp only [rmN, room_1]; omega, by dsimp only [rmN, room_1]; omega⟩ (fun x847 u847 h847 => ?_)
                                  refine j_perm (pr_1_0 _) ?_
                                  have h847 : x847 = S 1 := h847.trans (vO1.trans (e9 1 (by omega)))
                                  refine j_iload C dL_law_850 rfl ?_
                                  refine j_icmp_ne (tgt := 866) C dL_law_852 (by decide) (by omega) (by omega) (by omega) (by omega) (fun c852 => ?_) (fun c852 => ?_)
                                  · exfalso; omega
                                  · refine j_aload_n C dL_law_855 rfl ?_
                                    refine j_perm (pm_1_0 _) ?_
                                    refine j_callH C XK (As := [.ref _]) (c_L_holds _ _ _ _ _ _ _ _ (by exact g9) (by assumption)) 1 nf_L_holds.2 wL_L_108 wS_L_holds wIn_L wC_L_holds rfl rfl (by decide) dL_law_856 (Nat.le_of_ble_eq_true rfl) ⟨by dsimp only [rmN, room_1]; omega, by dsimp only [rmN, room_1]; omega⟩ (fun x856 u856 h856 => ?_)
                                    refine j_perm (pr_1_0 _) ?_
                                    have h856 : x856 = 1 := h856
                                    subst h856
                                    refine j_if_eq (tgt := 866) C dL_law_859 (by decide) (by omega) (by omega) (fun c859 => ?_) (fun c859 => ?_)
                                    · exfalso; omega
                                    · refine j_iconst C dL_law_862 ?_
                                      refine j_goto (tgt := 867) C dL_law_863 (by decide) ?_
                                      exact hend (by first | omega | (dsimp only [rmN]; omega)) (by first | omega | (dsimp only [rmN]; omega))
set_option maxHeartbeats 1600000 in
set_option maxRecDepth 100000 in
theorem c_law_tail {K : KT} (C : Cx K cL_law 19 RL (some .boolean) room_1) (XK : WX K) (hfl : (kl K).stackTraces = false) {b0 Ls : Nat} {xs : Nat → Int32} (hX : va_X b0 Ls xs (ks K) (ks K).heap) (hbl : b0 < (ks K).heap.size) (hbA : ¬ kA K b0) (hL : Ls ≤ 260) {A : AT} {ce sl : Nat} (hce : ce ≤ 2000) (hsl : sl ≤ 100000) {c : Int} {L : LT} {S : Int → Int} {u : SC} {k : Int} (hk : 0 ≤ k ∧ k ≤ 13) (hrel : LY (k + 1) c L S) (kk2 : ∀ u2 : SC, J K (ce + 1) (sl + 6) [wB (kC K) A c L S u2] [some (.ref b0), some (.ref A.1), some (.int (iI 1)), some (.int (iI (k + 1))), none, none, none, none, none, none, none, none, none, none, none, none, none, none, none] 135 []) : J K ce sl [wB (kC K) A c L S u] [some (.ref b0), some (.ref A.1), some (.int (iI 1)), some (.int (iI k)), none, none, none, none, none, none, none, none, none, none, none, none, none, none, none] 651 [] := by
  obtain ⟨g, hc, h0, h1, h4⟩ := id hrel
  refine j_iload_n C dL_law_651 rfl ?_
  refine j_if_eq (tgt := 666) C dL_law_652 (by decide) (by omega) (by omega) (fun c652 => ?_) (fun c652 => ?_)
  · exfalso; omega
  · refine j_aload_n C dL_law_655 rfl ?_
    refine j_perm (pm_1_0 _) ?_
    refine j_callH C XK (As := [.ref _]) (c_L_holds _ _ _ _ _ _ _ _ (by first | assumption | omega) (by assumption)) 1 nf_L_holds.2 wL_L_108 wS_L_holds wIn_L wC_L_holds rfl rfl (by decide) dL_law_656 (Nat.le_of_ble_eq_true rfl) ⟨by dsimp only [rmN, room_1]; omega, by dsimp only [rmN, room_1]; omega⟩ (fun x656 u656 h656 => ?_)
    refine j_perm (pr_1_0 _) ?_
    have h656 : x656 = 1 := h656
    subst h656
    refine j_if_eq (tgt := 666) C dL_law_659 (by decide) (by omega) (by omega) (fun c659 => ?_) (fun c659 => ?_)
    · exfalso; omega
    · refine j_iconst C dL_law_662 ?_
      refine j_goto (tgt := 667) C dL_law_663 (by decide) ?_
      refine j_istn_2 C dL_law_667 rfl ?_
      refine j_iinc_3 C dL_law_668 rfl ?_
      refine j_goto (tgt := 135) C dL_law_671 (by decide) ?_
      exact j_widen (ce' := ce + 1) (sl' := sl + 6) (by first | omega | (dsimp only [rmN]; omega)) (by first | omega | (dsimp only [rmN]; omega)) (kk2 _)
set_option maxHeartbeats 1600000 in
set_option maxRecDepth 100000 in
theorem c_law_body {K : KT} (C : Cx K cL_law 19 RL (some .boolean) room_1) (XK : WX K) (hfl : (kl K).stackTraces = false) {b0 Ls : Nat} {xs : Nat → Int32} (hX : va_X b0 Ls xs (ks K) (ks K).heap) (hbl : b0 < (ks K).heap.size) (hbA : ¬ kA K b0) (hL : Ls ≤ 260) {A : AT} {ce sl : Nat} (hce : ce ≤ 1000) (hsl : sl ≤ 100000) {c : Int} {L : LT} {S : Int → Int} {u : SC} {k : Int} (hk : 0 ≤ k ∧ k ≤ 13) (hrel : LY k c L S) (kk : KK K b0 A k ce sl) : J K ce sl [wB (kC K) A c L S u] [some (.ref b0), some (.ref A.1), some (.int (iI 1)), some (.int (iI k)), none, none, none, none, none, none, none, none, none, none, none, none, none, none, none] 135 [] := by
  obtain ⟨g, hc, h0, h1, h4⟩ := id hrel
  have hI := g.1
  have hN := hI.2.1
  refine j_iload_n C dL_law_135 rfl ?_
  refine j_bipush C dL_law_136 (by decide) ?_
  refine j_icmp_ge (tgt := 674) C dL_law_138 (by decide) (by omega) (by omega) (by omega) (by omega) (fun c138 => ?_) (fun c138 => ?_)
  · exfalso; omega
  · refine j_iload_n C dL_law_141 rfl ?_
    refine j_if_eq (tgt := 674) C dL_law_142 (by decide) (by omega) (by omega) (fun c142 => ?_) (fun c142 => ?_)
    · exfalso; omega
    · refine j_aload_n C dL_law_145 rfl ?_
      refine j_bipush C dL_law_146 (by decide) ?_
      refine j_iload_n C dL_law_148 rfl ?_
      refine j_iadd C dL_law_149 ?_
      refine j_callC C hX hbl hbA (As := [.ref _, .int (iI _)]) (c_L_cell _ _ _ hL _ (by omega)) 2 nf_L_cell.2 wL_L_111 wS_L_cell wIn_L wC_L_cell rfl rfl (by decide) dL_law_150 (Nat.le_of_ble_eq_true rfl) ⟨by dsimp only [rmN, room_1]; omega, by dsimp only [rmN, room_1]; omega⟩ (fun x150 h150 => ?_)
      refine j_ist_4 C dL_law_153 rfl ?_
      refine j_iload C dL_law_155 rfl ?_
      refine j_bipush C dL_law_157 (by decide) ?_
      refine j_idiv C dL_law_159 (by omega) (by omega) (by omega) (by omega) ?_
      refine j_ist_5 C dL_law_160 rfl ?_
      refine j_aload_n C dL_law_162 rfl ?_
      refine j_iconst C dL_law_163 ?_
      refine j_perm (pm_1_0 _) ?_
      refine j_callW C XK (As := [.ref _, .int (iI _)]) (c_L_value _ _ _ _ _ _ _ _ _ (by first | assumption | omega) (by first | assumption | omega)) 2 nf_L_value.2 wL_L_68 wS_L_value wIn_L wC_L_value rfl rfl (by decide) dL_law_164 (Nat.le_of_ble_eq_true rfl) ⟨by dsimp only [rmN, room_1]; omega, by dsimp only [rmN, room_1]; omega⟩ (fun x164 u164 h164 => ?_)
      refine j_perm (pr_1_0 _) ?_
      have h164 : x164 = S 0 := h164.trans vO0
      subst h164
      refine j_ist_6 C dL_law_167 rfl ?_
      refine j_iload C dL_law_169 rfl ?_
      refine j_aload_n C dL_law_171 rfl ?_
      refine j_iconst C dL_law_172 ?_
      refine j_perm (pm_1_0 _) ?_
      refine j_callW C XK (As := [.ref _, .int (iI _)]) (c_L_value _ _ _ _ _ _ _ _ _ (by first | assumption | omega) (by first | assumption | omega)) 2 nf_L_value.2 wL_L_68 wS_L_value wIn_L wC_L_value rfl rfl (by decide) dL_law_173 (Nat.le_of_ble_eq_true rfl) ⟨by dsimp only [rmN, room_1]; omega, by dsimp only [rmN, room_1]; omega⟩ (fun x173 u173 h173 => ?_)
      refine j_perm (pr_1_0 _) ?_
      have h173 : x173 = S 1 := h173.trans vO1
      subst h173
      refine j_irem C dL_law_176 (by omega) (by omega) (by omega) (by omega) ?_
      refine j_ist_7 C dL_law_177 rfl ?_
      have hpm := Int.emod_nonneg (x150 / 16) (show S 1 ≠ 0 by omega)
      have hpl := Int.emod_lt_of_pos (x150 / 16) (show 0 < S 1 by omega)
      refine j_iload C dL_law_179 rfl ?_
      refine j_bipush C dL_law_181 (by decide) ?_
      refine j_irem C dL_law_183 (by omega) (by omega) (by omega) (by omega) ?_
      by_cases q184_0 : x150 % 16 = 0
      · refine j_tabIn (tgt := 236) (v := 0) C dL_law_184 q184_0 (by decide) (by decide) (by decide) (by decide) rfl (by decide) ?_
        exact c_law_pay C XK hfl hX hbl hbA hL (by first | omega | (dsimp only [rmN]; omega)) (by first | omega | (dsimp only [rmN]; omega)) hk ⟨by omega, by omega⟩ ⟨hpm, hpl⟩ hrel kk
      by_cases q184_1 : x150 % 16 = 1
      · refine j_tabIn (tgt := 236) (v := 1) C dL_law_184 q184_1 (by decide) (by decide) (by decide) (by decide) rfl (by decide) ?_
        exact c_law_pay C XK hfl hX hbl hbA hL (by first | omega | (dsimp only [rmN]; omega)) (by first | omega | (dsimp only [rmN]; omega)) hk ⟨by omega, by omega⟩ ⟨hpm, hpl⟩ hrel kk
      by_cases q184_2 : x150 % 16 = 2
      · refine j_tabIn (tgt := 360) (v := 2) C dL_law_184 q184_2 (by decide) (by decide) (by decide) (by decide) rfl (by decide) ?_
        exact c_law_dis C XK hfl hX hbl hbA hL (by first | omega | (dsimp only [rmN]; omega)) (by first | omega | (dsimp only [rmN]; omega)) hk ⟨by omega, by omega⟩ ⟨hpm, hpl⟩ hrel kk
      by_cases q184_3 : x150 % 16 = 3
      · refine j_tabIn (tgt := 440) (v := 3) C dL_law_184 q184_3 (by decide) (by decide) (by decide) (by decide) rfl (by decide) ?_
        exact c_law_set C XK hfl hX hbl hbA hL (by first | omega | (dsimp only [rmN]; omega)) (by first | omega | (dsimp only [rmN]; omega)) hk ⟨by omega, by omega⟩ ⟨hpm, hpl⟩ hrel kk
      by_cases q184_4 : x150 % 16 = 4
      · refine j_tabIn (tgt := 516) (v := 4) C dL_law_184 q184_4 (by decide) (by decide) (by decide) (by decide) rfl (by decide) ?_
        exact c_law_best C XK hfl hX hbl hbA hL (by first | omega | (dsimp only [rmN]; omega)) (by first | omega | (dsimp only [rmN]; omega)) hk ⟨by omega, by omega⟩ ⟨hpm, hpl⟩ hrel kk
      by_cases q184_5 : x150 % 16 = 5
      · refine j_tabIn (tgt := 558) (v := 5) C dL_law_184 q184_5 (by decide) (by decide) (by decide) (by decide) rfl (by decide) ?_
        exact c_law_one C XK hfl hX hbl hbA hL (by first | omega | (dsimp only [rmN]; omega)) (by first | omega | (dsimp only [rmN]; omega)) hk ⟨by omega, by omega⟩ ⟨hpm, hpl⟩ hrel kk
      by_cases q184_6 : x150 % 16 = 6
      · refine j_tabIn (tgt := 558) (v := 6) C dL_law_184 q184_6 (by decide) (by decide) (by decide) (by decide) rfl (by decide) ?_
        exact c_law_one C XK hfl hX hbl hbA hL (by first | omega | (dsimp only [rmN]; omega)) (by first | omega | (dsimp only [rmN]; omega)) hk ⟨by omega, by omega⟩ ⟨hpm, hpl⟩ hrel kk
      by_cases q184_7 : x150 % 16 = 7
      · refine j_tabIn (tgt := 558) (v := 7) C dL_law_184 q184_7 (by decide) (by decide) (by decide) (by decide) rfl (by decide) ?_
        exact c_law_one C XK hfl hX hbl hbA hL (by first | omega | (dsimp only [rmN]; omega)) (by first | omega | (dsimp only [rmN]; omega)) hk ⟨by omega, by omega⟩ ⟨hpm, hpl⟩ hrel kk
      by_cases q184_8 : x150 % 16 = 8
      · refine j_tabIn (tgt := 558) (v := 8) C dL_law_184 q184_8 (by decide) (by decide) (by decide) (by decide) rfl (by decide) ?_
        exact c_law_one C XK hfl hX hbl hbA hL (by first | omega | (dsimp only [rmN]; omega)) (by first | omega | (dsimp only [rmN]; omega)) hk ⟨by omega, by omega⟩ ⟨hpm, hpl⟩ hrel kk
      refine j_tabOut (tgt := 581) C dL_law_184 (by omega) (by omega) (by omega) (by decide) ?_
      exact c_law_add C XK hfl hX hbl hbA hL (by first | omega | (dsimp only [rmN]; omega)) (by first | omega | (dsimp only [rmN]; omega)) hk ⟨by omega, by omega⟩ ⟨hpm, hpl⟩ hrel kk
set_option maxHeartbeats 1600000 in
set_option maxRecDepth 100000 in
theorem c_law_first7 {K : KT} (C : Cx K cL_law 19 RL (some .boolean) room_1) (XK : WX K) (hfl : (kl K).stackTraces = false) {b0 Ls : Nat} {xs : Nat → Int32} (hX : va_X b0 Ls xs (ks K) (ks K).heap) (hbl : b0 < (ks K).heap.size) (hbA : ¬ kA K b0) (hL : Ls ≤ 260) {A : AT} {ce sl : Nat} (hce : ce ≤ 1000) (hsl : sl ≤ 100000) {c : Int} {L : LT} {S : Int → Int} {u : SC} {k : Int} (hk : 0 ≤ k ∧ k ≤ 6) (hrel : LF7 k c L S) (kk2 : ∀ (c : Int) (L : LT) (S : Int → Int) (u : SC), LF7 (k + 1) c L S → J K (ce + 9) (sl + 333) [wB (kC K) A c L S u] [some (.ref b0), some (.ref A.1), some (.int (iI 1)), some (.int (iI (k + 1))), none, none, none, none, none, none, none, none, none, none, none, none, none, none, none] 39 []) : J K ce sl [wB (kC K) A c L S u] [some (.ref b0), some (.ref A.1), some (.int (iI 1)), some (.int (iI k)), none, none, none, none, none, none, none, none, none, none, none, none, none, none, none] 39 [] := by
  obtain ⟨g, hc, h0, h1, h4⟩ := id hrel
  have hI := g.1
  have hz := g.2.1
  have hN := hI.2.1
  refine j_iload_n C dL_law_39 rfl ?_
  refine j_bipush C dL_law_40 (by decide) ?_
  refine j_icmp_ge (tgt := 133) C dL_law_42 (by decide) (by omega) (by omega) (by omega) (by omega) (fun c42 => ?_) (fun c42 => ?_)
  · exfalso; omega
  · refine j_iload_n C dL_law_45 rfl ?_
    refine j_if_eq (tgt := 133) C dL_law_46 (by decide) (by omega) (by omega) (fun c46 => ?_) (fun c46 => ?_)
    · exfalso; omega
    · refine j_aload_n C dL_law_49 rfl ?_
      refine j_iconst C dL_law_50 ?_
      refine j_iload_n C dL_law_51 rfl ?_
      refine j_iadd C dL_law_52 ?_
      refine j_callC C hX hbl hbA (As := [.ref _, .int (iI _)]) (c_L_cell _ _ _ hL _ (by omega)) 2 nf_L_cell.2 wL_L_111 wS_L_cell wIn_L wC_L_cell rfl rfl (by decide) dL_law_53 (Nat.le_of_ble_eq_true rfl) ⟨by dsimp only [rmN, room_1]; omega, by dsimp only [rmN, room_1]; omega⟩ (fun x53 h53 => ?_)
      refine j_ist_4 C dL_law_56 rfl ?_
      refine j_aload_n C dL_law_58 rfl ?_
      refine j_iconst C dL_law_59 ?_
      refine j_perm (pm_1_0 _) ?_
      refine j_callW C XK (As := [.ref _, .int (iI _)]) (c_L_value _ _ _ _ _ _ _ _ _ (by first | assumption | omega) (by first | assumption | omega)) 2 nf_L_value.2 wL_L_68 wS_L_value wIn_L wC_L_value rfl rfl (by decide) dL_law_60 (Nat.le_of_ble_eq_true rfl) ⟨by dsimp only [rmN, room_1]; omega, by dsimp only [rmN, room_1]; omega⟩ (fun x60 u60 h60 => ?_)
      refine j_perm (pr_1_0 _) ?_
      have h60 : x60 = S 0 := h60.trans vO0
      subst h60
      refine j_ist_5 C dL_law_63 rfl ?_
      have hpk := pick h53.1 h0.1 h0.2
      refine j_iload C dL_law_65 rfl ?_
      refine j_iload C dL_law_67 rfl ?_
      refine j_irem C dL_law_69 (by omega) (by omega) (by omega) (by omega) ?_
      refine j_ist_6 C dL_law_70 rfl ?_
      refine j_aload_n C dL_law_72 rfl ?_
      refine j_iload C dL_law_73 rfl ?_
      refine j_iload C dL_law_75 rfl ?_
      refine j_iconst C dL_law_77 ?_
      refine j_iadd C dL_law_78 ?_
      refine j_iload C dL_law_79 rfl ?_
      refine j_bipush C dL_law_81 (by decide) ?_
      refine j_idiv C dL_law_83 (by omega) (by omega) (by omega) (by omega) ?_
      refine j_iload C dL_law_84 rfl ?_
      refine j_iconst C dL_law_86 ?_
      refine j_isub C dL_law_87 ?_
      refine j_irem C dL_law_88 (by omega) (by omega) (by omega) (by omega) ?_
      refine j_iadd C dL_law_89 ?_
      refine j_iload C dL_law_90 rfl ?_
      refine j_irem C dL_law_92 (by omega) (by omega) (by omega) (by omega) ?_
      refine j_iconst C dL_law_93 ?_
      refine j_iload C dL_law_94 rfl ?_
      refine j_bipush C dL_law_96 (by decide) ?_
      refine j_idiv C dL_law_98 (by omega) (by omega) (by omega) (by omega) ?_
      refine j_sipush C dL_law_99 (by decide) ?_
      refine j_irem C dL_law_102 (by omega) (by omega) (by omega) (by omega) ?_
      refine j_iadd C dL_law_103 ?_
      refine j_iconst C dL_law_104 ?_
      refine j_iload C dL_law_105 rfl ?_
      refine j_ldc C 32768 (by decide) wN_L_118 dL_law_107 ?_
      refine j_idiv C dL_law_109 (by omega) (by omega) (by omega) (by omega) ?_
      refine j_bipush C dL_law_110 (by decide) ?_
      refine j_irem C dL_law_112 (by omega) (by omega) (by omega) (by omega) ?_
      refine j_iadd C dL_law_113 ?_
      refine j_perm (pm_1_0 _) ?_
      refine j_callW C XK (As := [.ref _, .int (iI _), .int (iI _), .int (iI _), .int (iI _)]) (c_L_promises _ _ _ _ _ _ _ _ _ _ _ _ (by first | assumption | omega) (by exact hz) (by first | assumption | omega) (by exact hpk.1) (by exact hpk.2.2.1) (by exact hpk.2.2.2) (by omega) (by omega) (by omega)) 5 nf_L_promises.2 wL_L_119 wS_L_promises wIn_L wC_L_promises rfl rfl (by decide) dL_law_114 (Nat.le_of_ble_eq_true rfl) ⟨by dsimp only [rmN, room_1]; omega, by dsimp only [rmN, room_1]; omega⟩ (fun x114 u114 h114 => ?_)
      refine j_perm (pr_1_0 _) ?_
      have h114x : x114 = S 1 := h114.1
      have hcl := (SVd_len hc h114.2).1
      have hga := Good_add (a := x53 % S 0) (e := (x53 % S 0 + 1 + x53 / 8 % (S 0 - 1)) % S 0) (x := 1 + x53 / 64 % 300) (y := 1 + x53 / 32768 % 9) g (by omega) hpk.1 hpk.2.2.1 hpk.2.2.2 (by omega) (by omega)
      have hnx : LF7 (k + 1) (cNx c) u114.1 (addP S (x53 % S 0) ((x53 % S 0 + 1 + x53 / 8 % (S 0 - 1)) % S 0) (1 + x53 / 64 % 300) (1 + x53 / 32768 % 9)) := ⟨hga.1, hcl, by omega, by omega, by omega⟩
      refine j_iload_n C dL_law_117 rfl ?_
      refine j_icmp_ne (tgt := 125) C dL_law_118 (by decide) (by omega) (by omega) (by omega) (by omega) (fun c118 => ?_) (fun c118 => ?_)
      · exfalso; omega
      · refine j_iconst C dL_law_121 ?_
        refine j_goto (tgt := 126) C dL_law_122 (by decide) ?_
        refine j_istn_2 C dL_law_126 rfl ?_
        refine j_iinc_3 C dL_law_127 rfl ?_
        refine j_goto (tgt := 39) C dL_law_130 (by decide) ?_
        exact j_lle (lv' := [_, _, _, _, none, none, none, none, none, none, none, none, none, none, none, none, none, none, none]) ⟨Or.inr rfl, ⟨Or.inr rfl, ⟨Or.inr rfl, ⟨Or.inr rfl, ⟨Or.inl rfl, ⟨Or.inl rfl, ⟨Or.inl rfl, ⟨Or.inl rfl, ⟨Or.inl rfl, ⟨Or.inl rfl, ⟨Or.inl rfl, ⟨Or.inl rfl, ⟨Or.inl rfl, ⟨Or.inl rfl, ⟨Or.inl rfl, ⟨Or.inl rfl, ⟨Or.inl rfl, ⟨Or.inl rfl, ⟨Or.inl rfl, trivial⟩⟩⟩⟩⟩⟩⟩⟩⟩⟩⟩⟩⟩⟩⟩⟩⟩⟩⟩ (j_widen (ce' := ce + 9) (sl' := sl + 333) (by first | omega | (dsimp only [rmN]; omega)) (by first | omega | (dsimp only [rmN]; omega)) (kk2 _ _ _ _ (by assumption)))
