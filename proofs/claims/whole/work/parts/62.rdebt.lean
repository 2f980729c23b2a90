/-! the reference: debts reckoned -/
def bW (S : Int → Int) (w p r : Int) : Int := sumZ (fun k => if k ≠ w ∧ di S k = 0 ∧ fr S k * 7 + tO S k = p ∧ ra S k = r then am S k else 0) (S 1)
theorem cel {S : Int → Int} (i : Int) : S (5 + 8 * i + 0) = fr S i ∧ S (5 + 8 * i + 1) = tO S i ∧ S (5 + 8 * i + 2) = am S i ∧ S (5 + 8 * i + 3) = ra S i ∧ S (5 + 8 * i + 4) = di S i ∧ S (5 + 8 * i + 7) = re S i := by
  refine ⟨?_, ?_, ?_, ?_, ?_, ?_⟩
  · unfold fr; congr 1; omega
  · unfold tO; congr 1; omega
  · unfold am; congr 1; omega
  · unfold ra; congr 1; omega
  · unfold di; congr 1; omega
  · unfold re; congr 1; omega
set_option maxHeartbeats 4000000 in
set_option maxRecDepth 100000 in
theorem c_X6_begins (l : Launch) (D : va_G) (cA : Nat → ClassId) (a : Nat → Nat) (q1 : Nat) (G S D1 B1 N1 : Int → Int) (w : Int) (hI : Inv S) (hw : -1 ≤ w ∧ w < 40) : MV (U := (Int → Int) × (Int → Int)) l yX6_begins cX6_begins 5 none (rmN 2 0 0) D cA [.ref (a 0), .ref (q1), .int (iI w)] [mO a G, [(q1, aJ (cA 0) 325 S)], [(a 5, aJ (cA 0) 49 D1)], [(a 6, aJ (cA 0) 490 B1)], [(a 8, aJ (cA 0) 9 N1)]] (fun u => (∀ p : Int, 0 ≤ p → p < 49 → u.1 p = dW S w p) ∧ ∀ p r : Int, 0 ≤ p → p < 49 → 0 ≤ r → r < 10 → u.2 (10 * p + r) = bW S w p r) (fun u => [mO a (st (st G 3 (S 0)) 4 0), [(q1, aJ (cA 0) 325 S)], [(a 5, aJ (cA 0) 49 u.1)], [(a 6, aJ (cA 0) 490 u.2)], [(a 8, aJ (cA 0) 9 (st N1 0 0))]]) := by
  refine m_startV pn_X6 rfl (List.forall_mem_cons.mpr ⟨rfl, List.forall_mem_cons.mpr ⟨rfl, List.forall_mem_cons.mpr ⟨rfl, fun _ h => absurd h List.not_mem_nil⟩⟩⟩) (Nat.le_of_ble_eq_true rfl) ?_
  intro K C e1 e2 e3 hin hR
  subst e1 e2 e3
  have hN := hI.2.1
  have hQ := hI.1
  show J K 0 0 [mO a G, [(q1, aJ ((kC K) 0) 325 S)], [(a 5, aJ ((kC K) 0) 49 D1)], [(a 6, aJ ((kC K) 0) 490 B1)], [(a 8, aJ ((kC K) 0) 9 N1)]] [some (.ref (a 0)), some (.ref (q1)), some (.int (iI w)), none, none] 0 []
  refine j_iconst C dX6_begins_0 ?_
  refine j_istn_3 C dX6_begins_1 rfl ?_
  have L2 : ∀ (fuel : Nat) (k : Int) (D2 B2 : Int → Int) (hk : 0 ≤ k ∧ k ≤ 490) (hD : ∀ p : Int, 0 ≤ p → 10 * p < k → D2 p = 0) (hB : ∀ p : Int, 0 ≤ p → p < k → B2 p = 0) (hf2 : (490 - k).toNat < fuel), J K 0 0 [mO a G, [(q1, aJ ((kC K) 0) 325 S)], [(a 5, aJ ((kC K) 0) 49 D2)], [(a 6, aJ ((kC K) 0) 490 B2)], [(a 8, aJ ((kC K) 0) 9 N1)]] [some (.ref (a 0)), some (.ref (q1)), some (.int (iI w)), some (.int (iI k)), none] 2 [] := by
    intro fuel
    induction fuel with
    | zero => intro k D2 B2 hk hD hB hf2; exact absurd hf2 (Nat.not_lt_zero _)
    | succ fuel ih2 =>
      intro k D2 B2 hk hD hB hf2
      refine j_iload_n C dX6_begins_2 rfl ?_
      refine j_sipush C dX6_begins_3 (by decide) ?_
      refine j_icmp_ge (tgt := 32) C dX6_begins_6 (by decide) (by omega) (by omega) (by omega) (by omega) (fun c6 => ?_) (fun c6 => ?_)
      · refine j_iconst C dX6_begins_32 ?_
        refine j_istn_3 C dX6_begins_33 rfl ?_
        have L34 : ∀ (fuel : Nat) (i : Int) (D3 B3 : Int → Int) (hi : 0 ≤ i ∧ i ≤ S 1) (hD3 : ∀ p : Int, 0 ≤ p → p < 49 → D3 p = sumZ (fun k => if k ≠ w ∧ di S k = 0 ∧ fr S k * 7 + tO S k = p then am S k else 0) i) (hB3 : ∀ p r : Int, 0 ≤ p → p < 49 → 0 ≤ r → r < 10 → B3 (10 * p + r) = sumZ (fun k => if k ≠ w ∧ di S k = 0 ∧ fr S k * 7 + tO S k = p ∧ ra S k = r then am S k else 0) i) (hf34 : (S 1 - i).toNat < fuel), J K 0 0 [mO a G, [(q1, aJ ((kC K) 0) 325 S)], [(a 5, aJ ((kC K) 0) 49 D3)], [(a 6, aJ ((kC K) 0) 490 B3)], [(a 8, aJ ((kC K) 0) 9 N1)]] [some (.ref (a 0)), some (.ref (q1)), some (.int (iI w)), some (.int (iI i)), none] 34 [] := by
          intro fuel
          induction fuel with
          | zero => intro i D3 B3 hi hD3 hB3 hf34; exact absurd hf34 (Nat.not_lt_zero _)
          | succ fuel ih34 =>
            intro i D3 B3 hi hD3 hB3 hf34
            refine j_iload_n C dX6_begins_34 rfl ?_
            refine j_aload_n C dX6_begins_35 rfl ?_
            refine j_iconst C dX6_begins_36 ?_
            refine j_iald C 1 0 rfl rfl dX6_begins_37 (by decide) (by omega) (by omega) ?_
            refine j_icmp_ge (tgt := 127) C dX6_begins_38 (by decide) (by omega) (by omega) (by omega) (by omega) (fun c38 => ?_) (fun c38 => ?_)
            · refine j_aload_n C dX6_begins_127 rfl ?_
              refine j_aload_n C dX6_begins_128 rfl ?_
              refine j_iconst C dX6_begins_129 ?_
              refine j_iald C 1 0 rfl rfl dX6_begins_130 (by decide) (by omega) (by omega) ?_
              refine j_put_p0 C 0 9 rfl mO_put3 rfl wU_X6 tyX6_ok nmX6 (by decide) wF_X6_83 rfl rfl rfl (Nat.le_of_ble_eq_true rfl) dX6_begins_131 ?_
              refine j_aload_n C dX6_begins_134 rfl ?_
              refine j_iconst C dX6_begins_135 ?_
              refine j_put_p0 C 0 12 rfl mO_put4 rfl wU_X6 tyX6_ok nmX6 (by decide) wF_X6_86 rfl rfl rfl (Nat.le_of_ble_eq_true rfl) dX6_begins_136 ?_
              refine j_aload_n C dX6_begins_139 rfl ?_
              refine j_get C 0 0 11 rfl rfl rfl wU_X6 (by decide) wF_X6_31 rfl dX6_begins_140 ?_
              refine j_iconst C dX6_begins_143 ?_
              refine j_iconst C dX6_begins_144 ?_
              refine j_iast_p4 C 0 rfl ar1_ast dX6_begins_145 (by decide) (by omega) (by omega) ?_
              refine hR (D3, B3) dX6_begins_146 ?_ rfl (Nat.le_of_ble_eq_true rfl) (Nat.le_of_ble_eq_true rfl)
              refine ⟨fun p p0 p1 => ?_, fun p r p0 p1 r0 r1 => ?_⟩
              · rw [show i = S 1 by omega] at hD3
                exact hD3 p p0 p1
              · rw [show i = S 1 by omega] at hB3
                exact hB3 p r p0 p1 r0 r1
            · have L121 : ∀ (D4 B4 : Int → Int) (hD4 : ∀ p : Int, 0 ≤ p → p < 49 → D4 p = sumZ (fun k => if k ≠ w ∧ di S k = 0 ∧ fr S k * 7 + tO S k = p then am S k else 0) (i + 1)) (hB4 : ∀ p r : Int, 0 ≤ p → p < 49 → 0 ≤ r → r < 10 → B4 (10 * p + r) = sumZ (fun k => if k ≠ w ∧ di S k = 0 ∧ fr S k * 7 + tO S k = p ∧ ra S k = r then am S k else 0) (i + 1)), J K 0 0 [mO a G, [(q1, aJ ((kC K) 0) 325 S)], [(a 5, aJ ((kC K) 0) 49 D4)], [(a 6, aJ ((kC K) 0) 490 B4)], [(a 8, aJ ((kC K) 0) 9 N1)]] [some (.ref (a 0)), some (.ref (q1)), some (.int (iI w)), some (.int (iI i)), none] 121 [] := by
                intro D4 B4 hD4 hB4
                refine j_iinc_3 C dX6_begins_121 rfl ?_
                refine j_goto (tgt := 34) C dX6_begins_124 (by decide) ?_
                exact ih34 _ _ _ (by omega) (by exact hD4) (by exact hB4) (by omega)
              have f := hI.2.2 i hi.1 (by omega)
              have e := cel (S := S) i
              refine j_iload_n C dX6_begins_41 rfl ?_
              refine j_iload_n C dX6_begins_42 rfl ?_
              refine j_icmp_eq (tgt := 121) C dX6_begins_43 (by decide) (by omega) (by omega) (by omega) (by omega) (fun c43 => ?_) (fun c43 => ?_)
              · exact L121 _ _ (by intro p p0 p1; rw [sumZ_s _ hi.1, ← hD3 p p0 p1, if_neg (by omega)]; omega) (by intro p r p0 p1 r0 r1; rw [sumZ_s _ hi.1, ← hB3 p r p0 p1 r0 r1, if_neg (by omega)]; omega)
              · refine j_aload_n C dX6_begins_46 rfl ?_
                refine j_iload_n C dX6_begins_47 rfl ?_
                refine j_iconst C dX6_begins_48 ?_
                refine j_perm (pm_5 _ _ _ _ _) ?_
                refine j_callSi C (As := [.int (iI _), .int (iI _)]) (c_X6_p _ _ _ _ _ ) 2 nf_X6_p.2 wL_X6_79 wS_X6_p wIn_X6 wC_X6_p rfl rfl (by decide) dX6_begins_49 (Nat.le_of_ble_eq_true rfl) ⟨Nat.le_of_ble_eq_true rfl, Nat.le_of_ble_eq_true rfl⟩ (fun x49 u49 h49 => ?_)
                refine j_perm (pr_5 _ _ _ _ _) ?_
                subst h49
                refine j_iald C 1 0 rfl rfl dX6_begins_52 (by decide) (by omega) (by omega) ?_
                refine j_if_ne (tgt := 121) C dX6_begins_53 (by decide) (by omega) (by omega) (fun c53 => ?_) (fun c53 => ?_)
                · exact L121 _ _ (by intro p p0 p1; rw [sumZ_s _ hi.1, ← hD3 p p0 p1, if_neg (by omega)]; omega) (by intro p r p0 p1 r0 r1; rw [sumZ_s _ hi.1, ← hB3 p r p0 p1 r0 r1, if_neg (by omega)]; omega)
                · refine j_bipush C dX6_begins_56 (by decide) ?_
                  refine j_aload_n C dX6_begins_58 rfl ?_
                  refine j_iload_n C dX6_begins_59 rfl ?_
                  refine j_iconst C dX6_begins_60 ?_
                  refine j_perm (pm_5 _ _ _ _ _) ?_
                  refine j_callSi C (As := [.int (iI _), .int (iI _)]) (c_X6_p _ _ _ _ _ ) 2 nf_X6_p.2 wL_X6_79 wS_X6_p wIn_X6 wC_X6_p rfl rfl (by decide) dX6_begins_61 (Nat.le_of_ble_eq_true rfl) ⟨Nat.le_of_ble_eq_true rfl, Nat.le_of_ble_eq_true rfl⟩ (fun x61 u61 h61 => ?_)
                  refine j_perm (pr_5 _ _ _ _ _) ?_
                  subst h61
                  refine j_iald C 1 0 rfl rfl dX6_begins_64 (by decide) (by omega) (by omega) ?_
                  refine j_imul C dX6_begins_65 ?_
                  refine j_aload_n C dX6_begins_66 rfl ?_
                  refine j_iload_n C dX6_begins_67 rfl ?_
                  refine j_iconst C dX6_begins_68 ?_
                  refine j_perm (pm_5 _ _ _ _ _) ?_
                  refine j_callSi C (As := [.int (iI _), .int (iI _)]) (c_X6_p _ _ _ _ _ ) 2 nf_X6_p.2 wL_X6_79 wS_X6_p wIn_X6 wC_X6_p rfl rfl (by decide) dX6_begins_69 (Nat.le_of_ble_eq_true rfl) ⟨Nat.le_of_ble_eq_true rfl, Nat.le_of_ble_eq_true rfl⟩ (fun x69 u69 h69 => ?_)
                  refine j_perm (pr_5 _ _ _ _ _) ?_
                  subst h69
                  refine j_iald C 1 0 rfl rfl dX6_begins_72 (by decide) (by omega) (by omega) ?_
                  refine j_iadd C dX6_begins_73 ?_
                  refine j_ist_4 C dX6_begins_74 rfl ?_
                  refine j_aload_n C dX6_begins_76 rfl ?_
                  refine j_get C 0 0 7 rfl rfl rfl wU_X6 (by decide) wF_X6_22 rfl dX6_begins_77 ?_
                  refine j_iload C dX6_begins_80 rfl ?_
                  refine j_dup2 C dX6_begins_82 rfl rfl ?_
                  refine j_iald C 2 0 rfl rfl dX6_begins_83 (by decide) (by omega) (by omega) ?_
                  refine j_aload_n C dX6_begins_84 rfl ?_
                  refine j_iload_n C dX6_begins_85 rfl ?_
                  refine j_iconst C dX6_begins_86 ?_
                  refine j_perm (pm_5 _ _ _ _ _) ?_
                  refine j_callSi C (As := [.int (iI _), .int (iI _)]) (c_X6_p _ _ _ _ _ ) 2 nf_X6_p.2 wL_X6_79 wS_X6_p wIn_X6 wC_X6_p rfl rfl (by decide) dX6_begins_87 (Nat.le_of_ble_eq_true rfl) ⟨Nat.le_of_ble_eq_true rfl, Nat.le_of_ble_eq_true rfl⟩ (fun x87 u87 h87 => ?_)
                  refine j_perm (pr_5 _ _ _ _ _) ?_
                  subst h87
                  refine j_iald C 1 0 rfl rfl dX6_begins_90 (by decide) (by omega) (by omega) ?_
                  refine j_iadd C dX6_begins_91 ?_
                  refine j_iast_p2 C 0 rfl ar1_ast dX6_begins_92 (by decide) (by omega) (by omega) ?_
                  refine j_aload_n C dX6_begins_93 rfl ?_
                  refine j_get C 0 0 8 rfl rfl rfl wU_X6 (by decide) wF_X6_25 rfl dX6_begins_94 ?_
                  refine j_bipush C dX6_begins_97 (by decide) ?_
                  refine j_iload C dX6_begins_99 rfl ?_
                  refine j_imul C dX6_begins_101 ?_
                  refine j_aload_n C dX6_begins_102 rfl ?_
                  refine j_iload_n C dX6_begins_103 rfl ?_
                  refine j_iconst C dX6_begins_104 ?_
                  refine j_perm (pm_5 _ _ _ _ _) ?_
                  refine j_callSi C (As := [.int (iI _), .int (iI _)]) (c_X6_p _ _ _ _ _ ) 2 nf_X6_p.2 wL_X6_79 wS_X6_p wIn_X6 wC_X6_p rfl rfl (by decide) dX6_begins_105 (Nat.le_of_ble_eq_true rfl) ⟨Nat.le_of_ble_eq_true rfl, Nat.le_of_ble_eq_true rfl⟩ (fun x105 u105 h105 => ?_)
                  refine j_perm (pr_5 _ _ _ _ _) ?_
                  subst h105
                  refine j_iald C 1 0 rfl rfl dX6_begins_108 (by decide) (by omega) (by omega) ?_
                  refine j_iadd C dX6_begins_109 ?_
                  refine j_dup2 C dX6_begins_110 rfl rfl ?_
                  refine j_iald C 3 0 rfl rfl dX6_begins_111 (by decide) (by omega) (by omega) ?_
                  refine j_aload_n C dX6_begins_112 rfl ?_
                  refine j_iload_n C dX6_begins_113 rfl ?_
                  refine j_iconst C dX6_begins_114 ?_
                  refine j_perm (pm_5 _ _ _ _ _) ?_
                  refine j_callSi C (As := [.int (iI _), .int (iI _)]) (c_X6_p _ _ _ _ _ ) 2 nf_X6_p.2 wL_X6_79 wS_X6_p wIn_X6 wC_X6_p rfl rfl (by decide) dX6_begins_115 (Nat.le_of_ble_eq_true rfl) ⟨Nat.le_of_ble_eq_true rfl, Nat.le_of_ble_eq_true rfl⟩ (fun x115 u115 h115 => ?_)
                  refine j_perm (pr_5 _ _ _ _ _) ?_
                  subst h115
                  refine j_iald C 1 0 rfl rfl dX6_begins_118 (by decide) (by omega) (by omega) ?_
                  refine j_iadd C dX6_begins_119 ?_
                  refine j_iast_p3 C 0 rfl ar1_ast dX6_begins_120 (by decide) (by omega) (by omega) ?_
                  exact j_lle (lv' := [_, _, _, _, none]) ⟨Or.inr rfl, ⟨Or.inr rfl, ⟨Or.inr rfl, ⟨Or.inr rfl, ⟨Or.inl rfl, trivial⟩⟩⟩⟩⟩ (L121 _ _ (by intro p p0 p1; rw [sumZ_s _ hi.1, ← hD3 p p0 p1]; by_cases z : p = 7 * S (5 + 8 * i + 0) + S (5 + 8 * i + 1); (subst z; rw [st_s, if_pos ⟨by omega, by omega, by omega⟩]; omega); (rw [st_n z, if_neg (by omega)]; omega)) (by intro p r p0 p1 r0 r1; rw [sumZ_s _ hi.1, ← hB3 p r p0 p1 r0 r1]; by_cases z : 10 * p + r = 10 * (7 * S (5 + 8 * i + 0) + S (5 + 8 * i + 1)) + S (5 + 8 * i + 3); (rw [z, st_s, if_pos ⟨by omega, by omega, by omega, by omega⟩]; omega); (rw [st_n z, if_neg (by omega)]; omega)))
        exact L34 _ _ _ _ (by omega) (by intro p p0 p1; rw [hD p p0 (by omega)]; rfl) (by intro p r p0 p1 r0 r1; rw [hB _ (by omega) (by omega)]; rfl) (Nat.lt_succ_self _)
      · refine j_aload_n C dX6_begins_9 rfl ?_
        refine j_get C 0 0 7 rfl rfl rfl wU_X6 (by decide) wF_X6_22 rfl dX6_begins_10 ?_
        refine j_iload_n C dX6_begins_13 rfl ?_
        refine j_bipush C dX6_begins_14 (by decide) ?_
        refine j_idiv C dX6_begins_16 (by omega) (by omega) (by omega) (by omega) ?_
        refine j_iconst C dX6_begins_17 ?_
        refine j_iast_p2 C 0 rfl ar1_ast dX6_begins_18 (by decide) (by omega) (by omega) ?_
        refine j_aload_n C dX6_begins_19 rfl ?_
        refine j_get C 0 0 8 rfl rfl rfl wU_X6 (by decide) wF_X6_25 rfl dX6_begins_20 ?_
        refine j_iload_n C dX6_begins_23 rfl ?_
        refine j_iconst C dX6_begins_24 ?_
        refine j_iast_p3 C 0 rfl ar1_ast dX6_begins_25 (by decide) (by omega) (by omega) ?_
        refine j_iinc_3 C dX6_begins_26 rfl ?_
        refine j_goto (tgt := 2) C dX6_begins_29 (by decide) ?_
        exact ih2 _ _ _ (by omega) (by intro p p0 p1; by_cases z : p = k / 10; (subst z; exact st_s _ _ _); (rw [st_n z]; exact hD p p0 (by omega))) (by intro p p0 p1; by_cases z : p = k; (subst z; exact st_s _ _ _); (rw [st_n z]; exact hB p p0 (by omega))) (by omega)
  exact L2 _ _ _ _ (by omega) (by intro p p0 p1; omega) (by intro p p0 p1; omega) (Nat.lt_succ_self _)
