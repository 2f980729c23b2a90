/-! the remainder: what its object holds; how its arrays stand to the ways -/
def rmO (m : Nat → Nat) : va_W := [(m 0, .inr (3, [.ref (m 1), .ref (m 2), .ref (m 3), .ref (m 4)]))]
/-- distances, and the promise by which each is reached -/
def hlf (v : Int) : Int := if v = -1 then -1 else v / 2
def RB (s : (Int → Int) × (Int → Int)) (D B : Int → Int) : Prop := ∀ p : Int, 0 ≤ p → p < 7 → D p = s.1 p ∧ B p = hlf (s.2 p)
def Bd (s : (Int → Int) × (Int → Int)) : Prop := ∀ p : Int, 0 ≤ p → p < 7 → s.1 p = 1000000 ∨ (0 ≤ s.1 p ∧ s.1 p ≤ 54)
/-- the same below n -/
def AG (n : Int) (f g : Int → Int) : Prop := ∀ p : Int, 0 ≤ p → p < n → f p = g p
theorem AG_st {n : Int} {f g : Int → Int} (h : AG n f g) {i v w : Int} (e : 0 ≤ i → i < n → v = w) : AG n (st f i v) (st g i w) := fun p h0 h1 => by
  by_cases c : p = i
  · subst c; rw [st_s, st_s]; exact e h0 h1
  · rw [st_n c, st_n c]; exact h p h0 h1
theorem rch_cases (a b c w : Int) (s : (Int → Int) × (Int → Int)) : (s.1 a ≠ FAR ∧ s.1 a + c < s.1 b ∧ rch a b c w s = (st s.1 b (s.1 a + c), st s.2 b w)) ∨ (¬ (s.1 a ≠ FAR ∧ s.1 a + c < s.1 b) ∧ rch a b c w s = s) := by
  unfold rch
  by_cases h : s.1 a ≠ FAR ∧ s.1 a + c < s.1 b
  · exact Or.inl ⟨h.1, h.2, if_pos h⟩
  · exact Or.inr ⟨h, if_neg h⟩
/-- what a reach answers and leaves -/
def RCH (a b c k : Int) (D B : Int → Int) (x : Int) (u : (Int → Int) × (Int → Int)) : Prop := (x = 1 ∧ D a ≠ FAR ∧ D a + c < D b ∧ u = (st D b (D a + c), st B b k)) ∨ (x = 0 ∧ ¬ (D a ≠ FAR ∧ D a + c < D b) ∧ u = (D, B))
theorem RB_rch {s : (Int → Int) × (Int → Int)} {D B : Int → Int} (h : RB s D B) {a b c k w x : Int} {u : (Int → Int) × (Int → Int)} (ha : 0 ≤ a ∧ a < 7) (hb : 0 ≤ b ∧ b < 7) (hw : w ≠ -1 ∧ w / 2 = k) (hr : RCH a b c k D B x u) : RB (rch a b c w s) u.1 u.2 ∧ (x = 0 → rch a b c w s = s) ∧ (x = 0 ∨ x = 1) := by
  have e1 := (h a ha.1 ha.2).1
  have e2 := (h b hb.1 hb.2).1
  rcases hr with ⟨rfl, h1, h2, rfl⟩ | ⟨rfl, h1, rfl⟩
  · rw [e1, e2] at h2
    rw [e1] at h1
    rcases rch_cases a b c w s with ⟨g1, g2, g⟩ | ⟨g1, g⟩
    · rw [g]
      refine ⟨fun p h0 h1 => ?_, fun q => absurd q (by decide), Or.inr rfl⟩
      by_cases z : p = b
      · subst z
        dsimp only
        rw [st_s, st_s, st_s, st_s, e1]
        exact ⟨rfl, by unfold hlf; rw [if_neg hw.1]; exact hw.2.symm⟩
      · dsimp only
        rw [st_n z, st_n z, st_n z, st_n z]
        exact h p h0 h1
    · exact absurd ⟨h1, h2⟩ g1
  · rw [e1, e2] at h1
    rcases rch_cases a b c w s with ⟨g1, g2, g⟩ | ⟨g1, g⟩
    · exact absurd ⟨g1, g2⟩ h1
    · rw [g]
      exact ⟨h, fun _ => rfl, Or.inl rfl⟩
theorem OKs_Bd {S x e y : Int → Int} {s : (Int → Int) × (Int → Int)} {r : Nat} {j : Int} (hp : Pot S x e y) (h : OKs S x e y r j s) : Bd s := fun p h0 h1 => OKs_fin hp h h0 h1
theorem rnd_Bd {S x e : Int → Int} (hI : Inv S) (hL : LI S x e) (r m : Nat) (hm : (m : Int) ≤ S 1) : Bd (rndN S x m (rnds S x r (ini e))) ∧ ((m : Int) < S 1 → di S m = 0 → Bd (shr1 S x m (rndN S x m (rnds S x r (ini e))))) := by
  obtain ⟨hx, ⟨y, hy⟩, -⟩ := hL
  have h := rndN_step hI hy hx (rnds_ok hI hy hx r) m hm
  exact ⟨OKs_Bd hy h, fun a b => OKs_Bd hy (shr1_step hI hy ⟨by omega, a⟩ b h)⟩
theorem psh_AG {n : Int} : ∀ (l : List Int) {f g : Int → Int} (m : Int), AG n f g → AG n (psh f l m) (psh g l m)
  | [], _, _, _, h => h
  | v :: l, f, g, m, h => by
    rw [psh, psh]
    exact psh_AG l m (AG_st h (fun a b => by rw [h _ a b]))
/-- what is needed of the way's last piece -/
theorem way_last {S x e D B t : Int → Int} (hI : Inv S) (hF : Fin S x e D B t) {p : Int} (h0 : 0 ≤ p) (h1 : p < 7) (hD : D p ≠ FAR) (hB : B p ≠ -1) : (0 ≤ B p / 2 ∧ B p / 2 < S 1) ∧ (0 ≤ ahd S (B p) ∧ ahd S (B p) < 7) ∧ D (ahd S (B p)) ≠ FAR ∧ ((tO S (B p / 2) = p ∧ B p % 2 = 0 ∧ ahd S (B p) = fr S (B p / 2)) ∨ (tO S (B p / 2) ≠ p ∧ B p % 2 = 1 ∧ ahd S (B p) = tO S (B p / 2))) := by
  rcases (hF.2 p h0 h1).2.2.2 hD with u | ⟨a, c, u1, u2, u3, u4⟩
  · exact absurd u.1 hB
  · have ea := arc_ahd u1
    have fa := arc_facts hI u1
    rw [← ea.1]
    refine ⟨ea.2.2, fa.1, u2, ?_⟩
    obtain ⟨k, k0, k1, kd, k2⟩ := u1
    have hk : B p / 2 = k := by rcases k2 with k2 | k2 <;> omega
    rw [hk]
    rcases k2 with k2 | k2
    · exact Or.inl ⟨k2.2.2.1.symm, by omega, k2.2.1⟩
    · exact Or.inr ⟨by omega, by omega, k2.2.1⟩
theorem org_s {S B : Int → Int} {n : Nat} {p : Int} (h : B p ≠ -1) : org S B (n + 1) p = org S B n (ahd S (B p)) := by rw [org, if_neg h]
theorem org_e {S B : Int → Int} {n : Nat} {p : Int} (h : B p = -1) : org S B n p = p := by
  cases n with
  | zero => rfl
  | succ n => rw [org, if_pos h]
theorem pth_s {S B : Int → Int} {n : Nat} {p : Int} (h : B p ≠ -1) : pth S B (n + 1) p = B p :: pth S B n (ahd S (B p)) := by rw [pth, if_neg h]
theorem pth_e {S B : Int → Int} {n : Nat} {p : Int} (h : B p = -1) : pth S B n p = [] := by
  cases n with
  | zero => rfl
  | succ n => rw [pth, if_pos h]
theorem near_AG {D D' e e' : Int → Int} (hD : AG 7 D' D) (he : AG 7 e' e) : near D' e' = near D e := by
  have : ∀ m : Nat, m ≤ 7 → nrN D' e' m = nrN D e m := by
    intro m
    induction m with
    | zero => intro _; rfl
    | succ m ih =>
      intro hm
      rw [nrN, nrN, ih (by omega), hD m (by omega) (by omega), he m (by omega) (by omega)]
  unfold near
  rw [this 7 (Nat.le_refl _)]
theorem pm_3 (B0 B1 B2 : va_W) : [B0, B1, B2].Perm ([] ++ [B0, B1, B2]) := List.Perm.refl _
theorem pr_3 (B0 B1 B2 : va_W) : ([] ++ [B0, B1, B2]).Perm [B0, B1, B2] := (pm_3 B0 B1 B2).symm
theorem pm_5_0_2_3 (B0 B1 B2 B3 B4 : va_W) : [B0, B1, B2, B3, B4].Perm ([B0, B2, B3] ++ [B1, B4]) := List.Perm.trans (List.Perm.refl _) (List.Perm.trans (List.Perm.cons _ (List.perm_middle (l₁ := [B1]) (a := B2) (l₂ := [B3, B4]))) (List.Perm.cons _ (List.Perm.cons _ (List.perm_middle (l₁ := [B1]) (a := B3) (l₂ := [B4])))))
theorem pr_5_0_2_3 (B0 B1 B2 B3 B4 : va_W) : ([B0, B2, B3] ++ [B1, B4]).Perm [B0, B1, B2, B3, B4] := (pm_5_0_2_3 B0 B1 B2 B3 B4).symm
theorem pm_5_4_3_2_1_0 (B0 B1 B2 B3 B4 : va_W) : [B0, B1, B2, B3, B4].Perm ([B4, B3, B2, B1, B0] ++ []) := List.Perm.trans (List.perm_middle (l₁ := [B0, B1, B2, B3]) (a := B4) (l₂ := [])) (List.Perm.trans (List.Perm.cons _ (List.perm_middle (l₁ := [B0, B1, B2]) (a := B3) (l₂ := []))) (List.Perm.trans (List.Perm.cons _ (List.Perm.cons _ (List.perm_middle (l₁ := [B0, B1]) (a := B2) (l₂ := [])))) (List.Perm.trans (List.Perm.cons _ (List.Perm.cons _ (List.Perm.cons _ (List.perm_middle (l₁ := [B0]) (a := B1) (l₂ := []))))) (List.Perm.cons _ (List.Perm.cons _ (List.Perm.cons _ (List.Perm.cons _ (List.Perm.refl _))))))))
theorem pr_5_4_3_2_1_0 (B0 B1 B2 B3 B4 : va_W) : ([B4, B3, B2, B1, B0] ++ []).Perm [B0, B1, B2, B3, B4] := (pm_5_4_3_2_1_0 B0 B1 B2 B3 B4).symm
theorem pm_6_0_1_3_4_5 (B0 B1 B2 B3 B4 B5 : va_W) : [B0, B1, B2, B3, B4, B5].Perm ([B0, B1, B3, B4, B5] ++ [B2]) := List.Perm.trans (List.Perm.refl _) (List.Perm.trans (List.Perm.cons _ (List.Perm.refl _)) (List.Perm.trans (List.Perm.cons _ (List.Perm.cons _ (List.perm_middle (l₁ := [B2]) (a := B3) (l₂ := [B4, B5])))) (List.Perm.trans (List.Perm.cons _ (List.Perm.cons _ (List.Perm.cons _ (List.perm_middle (l₁ := [B2]) (a := B4) (l₂ := [B5]))))) (List.Perm.cons _ (List.Perm.cons _ (List.Perm.cons _ (List.Perm.cons _ (List.perm_middle (l₁ := [B2]) (a := B5) (l₂ := [])))))))))
theorem pr_6_0_1_3_4_5 (B0 B1 B2 B3 B4 B5 : va_W) : ([B0, B1, B3, B4, B5] ++ [B2]).Perm [B0, B1, B2, B3, B4, B5] := (pm_6_0_1_3_4_5 B0 B1 B2 B3 B4 B5).symm
theorem pm_6_5 (B0 B1 B2 B3 B4 B5 : va_W) : [B0, B1, B2, B3, B4, B5].Perm ([B5] ++ [B0, B1, B2, B3, B4]) := List.perm_middle (l₁ := [B0, B1, B2, B3, B4]) (a := B5) (l₂ := [])
theorem pr_6_5 (B0 B1 B2 B3 B4 B5 : va_W) : ([B5] ++ [B0, B1, B2, B3, B4]).Perm [B0, B1, B2, B3, B4, B5] := (pm_6_5 B0 B1 B2 B3 B4 B5).symm
set_option maxHeartbeats 4000000 in
set_option maxRecDepth 100000 in
theorem c_X3_init (l : Launch) (D : va_G) (cA : Nat → ClassId) (q : Nat)  : MV (U := Nat → Nat) l yX3_init cX3_init 1 none (rmN 1 4 61) D cA [.ref (q)] [[(q, .inr (3, [.null, .null, .null, .null]))]] (fun d => d 0 = q) (fun m => [rmO m, [(m 1, aJ (cA 0) 40 (fun _ => 0))], [(m 2, aJ (cA 0) 7 (fun _ => 0))], [(m 3, aJ (cA 0) 7 (fun _ => 0))], [(m 4, aJ (cA 0) 7 (fun _ => 0))]]) := by
  refine m_startV pn_X3 rfl (List.forall_mem_cons.mpr ⟨rfl, fun _ h => absurd h List.not_mem_nil⟩) (Nat.le_of_ble_eq_true rfl) ?_
  intro K C e1 e2 e3 hin hR
  subst e1 e2 e3
  show J K 0 0 [[(q, .inr (3, [.null, .null, .null, .null]))]] [some (.ref (q))] 0 []
  refine j_aload_n C dX3_init_0 rfl ?_
  refine j_objInit C rfl wL_X3_3 dX3_init_1 ⟨by decide, Nat.le_of_ble_eq_true rfl⟩ ?_
  refine j_aload_n C dX3_init_4 rfl ?_
  refine j_bipush C dX3_init_5 (by decide) ?_
  refine j_newi C 40 (by decide) (by decide) wA__int (by decide) dX3_init_7 (fun q1 => ?_)
  refine j_putF_p1 C hin 0 0 (B' := [(q, .inr (3, [.ref q1, .null, .null, .null]))]) rfl rfl rfl wU_X3 tyX3_ok nmX3 (by decide) wF_X3_9 rfl rfl rfl rfl (Nat.le_of_ble_eq_true rfl) dX3_init_9 ?_
  refine j_aload_n C dX3_init_12 rfl ?_
  refine j_bipush C dX3_init_13 (by decide) ?_
  refine j_newi C 7 (by decide) (by decide) wA__int (by decide) dX3_init_15 (fun q2 => ?_)
  refine j_putF_p2 C hin 0 1 (B' := [(q, .inr (3, [.ref q1, .ref q2, .null, .null]))]) rfl rfl rfl wU_X3 tyX3_ok nmX3 (by decide) wF_X3_15 rfl rfl rfl rfl (Nat.le_of_ble_eq_true rfl) dX3_init_17 ?_
  refine j_aload_n C dX3_init_20 rfl ?_
  refine j_bipush C dX3_init_21 (by decide) ?_
  refine j_newi C 7 (by decide) (by decide) wA__int (by decide) dX3_init_23 (fun q3 => ?_)
  refine j_putF_p3 C hin 0 2 (B' := [(q, .inr (3, [.ref q1, .ref q2, .ref q3, .null]))]) rfl rfl rfl wU_X3 tyX3_ok nmX3 (by decide) wF_X3_18 rfl rfl rfl rfl (Nat.le_of_ble_eq_true rfl) dX3_init_25 ?_
  refine j_aload_n C dX3_init_28 rfl ?_
  refine j_bipush C dX3_init_29 (by decide) ?_
  refine j_newi C 7 (by decide) (by decide) wA__int (by decide) dX3_init_31 (fun q4 => ?_)
  refine j_putF_p4 C hin 0 3 (B' := [(q, .inr (3, [.ref q1, .ref q2, .ref q3, .ref q4]))]) rfl rfl rfl wU_X3 tyX3_ok nmX3 (by decide) wF_X3_21 rfl rfl rfl rfl (Nat.le_of_ble_eq_true rfl) dX3_init_33 ?_
  refine j_perm (pm_5_4_3_2_1_0 _ _ _ _ _) ?_
  exact hR (ad9 q q1 q2 q3 q4 0 0 0 0) dX3_init_36 (by rfl) rfl (Nat.le_of_ble_eq_true rfl) (Nat.le_of_ble_eq_true rfl)
set_option maxHeartbeats 4000000 in
set_option maxRecDepth 100000 in
theorem c_X3_addExcess (l : Launch) (D : va_G) (cA : Nat → ClassId) (m : Nat → Nat) (E : Int → Int) (p v : Int) (hp : 0 ≤ p ∧ p < 7) : MV (U := Unit) l yX3_addExcess cX3_addExcess 3 none (rmN 2 0 0) D cA [.ref (m 0), .int (iI p), .int (iI v)] [rmO m, [(m 2, aJ (cA 0) 7 E)]] (fun _ => True) (fun _ => [rmO m, [(m 2, aJ (cA 0) 7 (st E p (E p + v)))]]) := by
  refine m_startV pn_X3 rfl (List.forall_mem_cons.mpr ⟨rfl, List.forall_mem_cons.mpr ⟨rfl, List.forall_mem_cons.mpr ⟨rfl, fun _ h => absurd h List.not_mem_nil⟩⟩⟩) (Nat.le_of_ble_eq_true rfl) ?_
  intro K C e1 e2 e3 hin hR
  subst e1 e2 e3
  show J K 0 0 [rmO m, [(m 2, aJ ((kC K) 0) 7 E)]] [some (.ref (m 0)), some (.int (iI p)), some (.int (iI v))] 0 []
  refine j_iload_n C dX3_addExcess_0 rfl ?_
  refine j_perm (pm_2 _ _) ?_
  refine j_callSNi C (As := [.int (iI _)]) (c_X5_isParty _ _ _ _ (by first | assumption | omega)) 1 nf_X5_isParty.2 wLN_X3_67 wS_X5_isParty wIn_X5 wC_X5_isParty rfl rfl (by decide) dX3_addExcess_1 (Nat.le_of_ble_eq_true rfl) ⟨Nat.le_of_ble_eq_true rfl, Nat.le_of_ble_eq_true rfl⟩ (fun x1 u1 h1 => ?_)
  refine j_perm (pr_2 _ _) ?_
  refine j_if_eq (tgt := 17) C dX3_addExcess_4 (by decide) (by omega) (by omega) (fun c4 => ?_) (fun c4 => ?_)
  · exact absurd c4 (by rw [h1, if_pos (by omega)]; decide)
  · refine j_aload_n C dX3_addExcess_7 rfl ?_
    refine j_get C 0 0 1 rfl rfl rfl wU_X3 (by decide) wF_X3_15 rfl dX3_addExcess_8 ?_
    refine j_iload_n C dX3_addExcess_11 rfl ?_
    refine j_dup2 C dX3_addExcess_12 rfl rfl ?_
    refine j_iald C 1 0 rfl rfl dX3_addExcess_13 (by decide) (by omega) (by omega) ?_
    refine j_iload_n C dX3_addExcess_14 rfl ?_
    refine j_iadd C dX3_addExcess_15 ?_
    refine j_iast_p1 C 0 rfl ar1_ast dX3_addExcess_16 (by decide) (by omega) (by omega) ?_
    exact hR () dX3_addExcess_17 (by first | trivial | omega | rfl) rfl (Nat.le_of_ble_eq_true rfl) (Nat.le_of_ble_eq_true rfl)
set_option maxHeartbeats 4000000 in
set_option maxRecDepth 100000 in
theorem c_X3_reach (l : Launch) (D : va_G) (cA : Nat → ClassId) (m : Nat → Nat) (D1 B1 : Int → Int) (a b c k : Int) (ha : 0 ≤ a ∧ a < 7) (hb : 0 ≤ b ∧ b < 7) (hc : -9 ≤ c ∧ c ≤ 9) (hDa : D1 a = 1000000 ∨ (0 ≤ D1 a ∧ D1 a ≤ 54)) (hDb : D1 b = 1000000 ∨ (0 ≤ D1 b ∧ D1 b ≤ 54)) : MI (U := (Int → Int) × (Int → Int)) l yX3_reach cX3_reach 5 (some .boolean) (rmN 2 0 0) D cA [.ref (m 0), .int (iI a), .int (iI b), .int (iI c), .int (iI k)] [rmO m, [(m 3, aJ (cA 0) 7 D1)], [(m 4, aJ (cA 0) 7 B1)]] (fun x u => RCH a b c k D1 B1 x u) (fun u => [rmO m, [(m 3, aJ (cA 0) 7 u.1)], [(m 4, aJ (cA 0) 7 u.2)]]) := by
  refine m_startZ pn_X3 rfl (List.forall_mem_cons.mpr ⟨rfl, List.forall_mem_cons.mpr ⟨rfl, List.forall_mem_cons.mpr ⟨rfl, List.forall_mem_cons.mpr ⟨rfl, List.forall_mem_cons.mpr ⟨rfl, fun _ h => absurd h List.not_mem_nil⟩⟩⟩⟩⟩) (Nat.le_of_ble_eq_true rfl) ?_
  intro K C e1 e2 e3 hin hR
  subst e1 e2 e3
  show J K 0 0 [rmO m, [(m 3, aJ ((kC K) 0) 7 D1)], [(m 4, aJ ((kC K) 0) 7 B1)]] [some (.ref (m 0)), some (.int (iI a)), some (.int (iI b)), some (.int (iI c)), some (.int (iI k))] 0 []
  refine j_iload_n C dX3_reach_0 rfl ?_
  refine j_perm (pm_3 _ _ _) ?_
  refine j_callSNi C (As := [.int (iI _)]) (c_X5_isParty _ _ _ _ (by first | assumption | omega)) 1 nf_X5_isParty.2 wLN_X3_67 wS_X5_isParty wIn_X5 wC_X5_isParty rfl rfl (by decide) dX3_reach_1 (Nat.le_of_ble_eq_true rfl) ⟨Nat.le_of_ble_eq_true rfl, Nat.le_of_ble_eq_true rfl⟩ (fun x1 u1 h1 => ?_)
  refine j_perm (pr_3 _ _ _) ?_
  refine j_if_eq (tgt := 42) C dX3_reach_4 (by decide) (by omega) (by omega) (fun c4 => ?_) (fun c4 => ?_)
  · exact absurd c4 (by rw [h1, if_pos (by omega)]; decide)
  · refine j_iload_n C dX3_reach_7 rfl ?_
    refine j_perm (pm_3 _ _ _) ?_
    refine j_callSNi C (As := [.int (iI _)]) (c_X5_isParty _ _ _ _ (by first | assumption | omega)) 1 nf_X5_isParty.2 wLN_X3_67 wS_X5_isParty wIn_X5 wC_X5_isParty rfl rfl (by decide) dX3_reach_8 (Nat.le_of_ble_eq_true rfl) ⟨Nat.le_of_ble_eq_true rfl, Nat.le_of_ble_eq_true rfl⟩ (fun x8 u8 h8 => ?_)
    refine j_perm (pr_3 _ _ _) ?_
    refine j_if_eq (tgt := 42) C dX3_reach_11 (by decide) (by omega) (by omega) (fun c11 => ?_) (fun c11 => ?_)
    · exact absurd c11 (by rw [h8, if_pos (by omega)]; decide)
    · refine j_aload_n C dX3_reach_14 rfl ?_
      refine j_get C 0 0 2 rfl rfl rfl wU_X3 (by decide) wF_X3_18 rfl dX3_reach_15 ?_
      refine j_iload_n C dX3_reach_18 rfl ?_
      refine j_iald C 1 0 rfl rfl dX3_reach_19 (by decide) (by omega) (by omega) ?_
      refine j_ldc C 1000000 (by decide) wN_X3_70 dX3_reach_20 ?_
      refine j_icmp_eq (tgt := 42) C dX3_reach_22 (by decide) (by omega) (by omega) (by omega) (by omega) (fun c22 => ?_) (fun c22 => ?_)
      · refine j_iconst C dX3_reach_42 ?_
        exact hR (D1, B1) dX3_reach_43 (by omega) (by exact Or.inr ⟨rfl, by unfold FAR; omega, rfl⟩) rfl (Nat.le_of_ble_eq_true rfl) (Nat.le_of_ble_eq_true rfl)
      · refine j_aload_n C dX3_reach_25 rfl ?_
        refine j_get C 0 0 2 rfl rfl rfl wU_X3 (by decide) wF_X3_18 rfl dX3_reach_26 ?_
        refine j_iload_n C dX3_reach_29 rfl ?_
        refine j_iald C 1 0 rfl rfl dX3_reach_30 (by decide) (by omega) (by omega) ?_
        refine j_iload_n C dX3_reach_31 rfl ?_
        refine j_iadd C dX3_reach_32 ?_
        refine j_aload_n C dX3_reach_33 rfl ?_
        refine j_get C 0 0 2 rfl rfl rfl wU_X3 (by decide) wF_X3_18 rfl dX3_reach_34 ?_
        refine j_iload_n C dX3_reach_37 rfl ?_
        refine j_iald C 1 0 rfl rfl dX3_reach_38 (by decide) (by omega) (by omega) ?_
        refine j_icmp_lt (tgt := 44) C dX3_reach_39 (by decide) (by omega) (by omega) (by omega) (by omega) (fun c39 => ?_) (fun c39 => ?_)
        · refine j_aload_n C dX3_reach_44 rfl ?_
          refine j_get C 0 0 2 rfl rfl rfl wU_X3 (by decide) wF_X3_18 rfl dX3_reach_45 ?_
          refine j_iload_n C dX3_reach_48 rfl ?_
          refine j_aload_n C dX3_reach_49 rfl ?_
          refine j_get C 0 0 2 rfl rfl rfl wU_X3 (by decide) wF_X3_18 rfl dX3_reach_50 ?_
          refine j_iload_n C dX3_reach_53 rfl ?_
          refine j_iald C 1 0 rfl rfl dX3_reach_54 (by decide) (by omega) (by omega) ?_
          refine j_iload_n C dX3_reach_55 rfl ?_
          refine j_iadd C dX3_reach_56 ?_
          refine j_iast_p1 C 0 rfl ar1_ast dX3_reach_57 (by decide) (by omega) (by omega) ?_
          refine j_aload_n C dX3_reach_58 rfl ?_
          refine j_get C 0 0 3 rfl rfl rfl wU_X3 (by decide) wF_X3_21 rfl dX3_reach_59 ?_
          refine j_iload_n C dX3_reach_62 rfl ?_
          refine j_iload C dX3_reach_63 rfl ?_
          refine j_iast_p2 C 0 rfl ar1_ast dX3_reach_65 (by decide) (by omega) (by omega) ?_
          refine j_iconst C dX3_reach_66 ?_
          exact hR (st D1 b (D1 a + c), st B1 b k) dX3_reach_67 (by omega) (by exact Or.inl ⟨rfl, by unfold FAR; omega, by omega, rfl⟩) rfl (Nat.le_of_ble_eq_true rfl) (Nat.le_of_ble_eq_true rfl)
        · refine j_iconst C dX3_reach_42 ?_
          exact hR (D1, B1) dX3_reach_43 (by omega) (by exact Or.inr ⟨rfl, by unfold FAR; omega, rfl⟩) rfl (Nat.le_of_ble_eq_true rfl) (Nat.le_of_ble_eq_true rfl)
set_option maxHeartbeats 4000000 in
set_option maxRecDepth 100000 in
theorem c_X3_shorten (l : Launch) (D : va_G) (cA : Nat → ClassId) (m : Nat → Nat) (X D1 B1 : Int → Int) (b : Nat → Nat) (S : Int → Int) (x : Int → Int) (s : (Int → Int) × (Int → Int)) (k : Int) (hI : Inv S) (hk : 0 ≤ k ∧ k < S 1) (hx : X k = x k) (hxb : 0 ≤ x k ∧ x k ≤ am S k) (hRB : RB s D1 B1) (hs : Bd s) (hs1 : Bd (shr1 S x k s)) : MI (U := (Int → Int) × (Int → Int)) l yX3_shorten cX3_shorten 4 (some .boolean) (rmN 3 0 0) D cA [.ref (m 0), .ref (b 0), .int (iI k)] [rmO m, [(m 1, aJ (cA 0) 40 X)], [(m 3, aJ (cA 0) 7 D1)], [(m 4, aJ (cA 0) 7 B1)], bk cA b S] (fun y u => (y = 0 ∨ y = 1) ∧ RB (shr2 S x k (shr1 S x k s)) u.1 u.2 ∧ (y = 0 → shr2 S x k (shr1 S x k s) = s)) (fun u => [rmO m, [(m 1, aJ (cA 0) 40 X)], [(m 3, aJ (cA 0) 7 u.1)], [(m 4, aJ (cA 0) 7 u.2)], bk cA b S]) := by
  refine m_startZ pn_X3 rfl (List.forall_mem_cons.mpr ⟨rfl, List.forall_mem_cons.mpr ⟨rfl, List.forall_mem_cons.mpr ⟨rfl, fun _ h => absurd h List.not_mem_nil⟩⟩⟩) (Nat.le_of_ble_eq_true rfl) ?_
  intro K C e1 e2 e3 hin hR
  subst e1 e2 e3
  have hN := hI.2.1
  have f := hI.2.2 k hk.1 hk.2
  have g := hI.1
  have b1 := hRB (fr S k) (by omega) (by omega)
  have b2 := hRB (tO S k) (by omega) (by omega)
  have b3 := hs (fr S k) (by omega) (by omega)
  have b4 := hs (tO S k) (by omega) (by omega)
  show J K 0 0 [rmO m, [(m 1, aJ ((kC K) 0) 40 X)], [(m 3, aJ ((kC K) 0) 7 D1)], [(m 4, aJ ((kC K) 0) 7 B1)], bk (kC K) b S] [some (.ref (m 0)), some (.ref (b 0)), some (.int (iI k)), none] 0 []
  refine j_iconst C dX3_shorten_0 ?_
  refine j_istn_3 C dX3_shorten_1 rfl ?_
  have L41 : ∀ (y : Int) (D2 B2 : Int → Int) (hy : y = 0 ∨ y = 1) (hR1 : RB (shr1 S x k s) D2 B2) (h0 : y = 0 → shr1 S x k s = s), J K 0 0 [rmO m, [(m 1, aJ ((kC K) 0) 40 X)], [(m 3, aJ ((kC K) 0) 7 D2)], [(m 4, aJ ((kC K) 0) 7 B2)], bk (kC K) b S] [some (.ref (m 0)), some (.ref (b 0)), some (.int (iI k)), some (.int (iI y))] 41 [] := by
    intro y D2 B2 hy hR1 h0
    have b5 := hR1 (fr S k) (by omega) (by omega)
    have b6 := hR1 (tO S k) (by omega) (by omega)
    have b7 := hs1 (fr S k) (by omega) (by omega)
    have b8 := hs1 (tO S k) (by omega) (by omega)
    have L79 : ∀ (y : Int) (D3 B3 : Int → Int) (hy : y = 0 ∨ y = 1) (hR2 : RB (shr2 S x k (shr1 S x k s)) D3 B3) (h2 : y = 0 → shr2 S x k (shr1 S x k s) = s), J K 0 0 [rmO m, [(m 1, aJ ((kC K) 0) 40 X)], [(m 3, aJ ((kC K) 0) 7 D3)], [(m 4, aJ ((kC K) 0) 7 B3)], bk (kC K) b S] [some (.ref (m 0)), some (.ref (b 0)), some (.int (iI k)), some (.int (iI y))] 79 [] := by
      intro y D3 B3 hy hR2 h2
      refine j_iload_n C dX3_shorten_79 rfl ?_
      exact hR (D3, B3) dX3_shorten_80 (by omega) (by exact ⟨hy, hR2, h2⟩) rfl (Nat.le_of_ble_eq_true rfl) (Nat.le_of_ble_eq_true rfl)
    refine j_aload_n C dX3_shorten_41 rfl ?_
    refine j_get C 0 0 0 rfl rfl rfl wU_X3 (by decide) wF_X3_9 rfl dX3_shorten_42 ?_
    refine j_iload_n C dX3_shorten_45 rfl ?_
    refine j_iald C 1 0 rfl rfl dX3_shorten_46 (by decide) (by omega) (by omega) ?_
    refine j_if_le (tgt := 79) C dX3_shorten_47 (by decide) (by omega) (by omega) (fun c47 => ?_) (fun c47 => ?_)
    · exact L79 _ _ _ (by omega) (by first | exact r71.1 | (rw [show shr2 S x k (shr1 S x k s) = shr1 S x k s from if_neg (by omega)]; exact hR1)) (by first | (intro q; rw [r71.2.1 (by omega)]; exact h0 (by omega)) | (intro q; rw [show shr2 S x k (shr1 S x k s) = shr1 S x k s from if_neg (by omega)]; exact h0 (by omega)) | (intro q; omega))
    · refine j_aload_n C dX3_shorten_50 rfl ?_
      refine j_aload_n C dX3_shorten_51 rfl ?_
      refine j_getN C 4 0 6 rfl rfl rfl wU_X0 (by decide) wFN_X3_64 rfl dX3_shorten_52 ?_
      refine j_iload_n C dX3_shorten_55 rfl ?_
      refine j_iald C 4 2 rfl rfl dX3_shorten_56 (by decide) (by omega) (by omega) ?_
      refine j_aload_n C dX3_shorten_57 rfl ?_
      refine j_getN C 4 0 5 rfl rfl rfl wU_X0 (by decide) wFN_X3_54 rfl dX3_shorten_58 ?_
      refine j_iload_n C dX3_shorten_61 rfl ?_
      refine j_iald C 4 1 rfl rfl dX3_shorten_62 (by decide) (by omega) (by omega) ?_
      refine j_aload_n C dX3_shorten_63 rfl ?_
      refine j_getN C 4 0 8 rfl rfl rfl wU_X0 (by decide) wFN_X3_75 rfl dX3_shorten_64 ?_
      refine j_iload_n C dX3_shorten_67 rfl ?_
      refine j_iald C 4 4 rfl rfl dX3_shorten_68 (by decide) (by omega) (by omega) ?_
      refine j_ineg C dX3_shorten_69 ?_
      refine j_iload_n C dX3_shorten_70 rfl ?_
      refine j_perm (pm_5_0_2_3 _ _ _ _ _) ?_
      refine j_callVi C (As := [.int (iI _), .int (iI _), .int (iI _), .int (iI _)]) (c_X3_reach _ _ _ _ _ _ _ _ _ _ (by first | assumption | omega) (by first | assumption | omega) (by first | assumption | omega) (by omega) (by omega)) 4 nf_X3_reach (jb := 0) rfl rfl wL_X3_78 wI_X3_reach wSe_X3_X3_reach wIn_X3 wC_X3_reach rfl rfl (by decide) dX3_shorten_71 (Nat.le_of_ble_eq_true rfl) ⟨Nat.le_of_ble_eq_true rfl, Nat.le_of_ble_eq_true rfl⟩ (fun x71 u71 h71 => ?_)
      refine j_perm (pr_5_0_2_3 _ _ _ _ _) ?_
      have r71 := RB_rch (w := 2 * k + 1) hR1 (by omega) (by omega) ⟨by omega, by omega⟩ h71
      have e71 : shr2 S x k (shr1 S x k s) = rch (tO S k) (fr S k) (-ra S k) (2 * k + 1) (shr1 S x k s) := if_pos (by omega)
      rw [← e71] at r71
      refine j_if_eq (tgt := 79) C dX3_shorten_74 (by decide) (by omega) (by omega) (fun c74 => ?_) (fun c74 => ?_)
      · exact L79 _ _ _ (by omega) (by first | exact r71.1 | (rw [show shr2 S x k (shr1 S x k s) = shr1 S x k s from if_neg (by omega)]; exact hR1)) (by first | (intro q; rw [r71.2.1 (by omega)]; exact h0 (by omega)) | (intro q; rw [show shr2 S x k (shr1 S x k s) = shr1 S x k s from if_neg (by omega)]; exact h0 (by omega)) | (intro q; omega))
      · refine j_iconst C dX3_shorten_77 ?_
        refine j_istn_3 C dX3_shorten_78 rfl ?_
        exact L79 _ _ _ (by omega) (by first | exact r71.1 | (rw [show shr2 S x k (shr1 S x k s) = shr1 S x k s from if_neg (by omega)]; exact hR1)) (by first | (intro q; rw [r71.2.1 (by omega)]; exact h0 (by omega)) | (intro q; rw [show shr2 S x k (shr1 S x k s) = shr1 S x k s from if_neg (by omega)]; exact h0 (by omega)) | (intro q; omega))
  refine j_aload_n C dX3_shorten_2 rfl ?_
  refine j_get C 0 0 0 rfl rfl rfl wU_X3 (by decide) wF_X3_9 rfl dX3_shorten_3 ?_
  refine j_iload_n C dX3_shorten_6 rfl ?_
  refine j_iald C 1 0 rfl rfl dX3_shorten_7 (by decide) (by omega) (by omega) ?_
  refine j_aload_n C dX3_shorten_8 rfl ?_
  refine j_getN C 4 0 7 rfl rfl rfl wU_X0 (by decide) wFN_X3_57 rfl dX3_shorten_9 ?_
  refine j_iload_n C dX3_shorten_12 rfl ?_
  refine j_iald C 4 3 rfl rfl dX3_shorten_13 (by decide) (by omega) (by omega) ?_
  refine j_icmp_ge (tgt := 41) C dX3_shorten_14 (by decide) (by omega) (by omega) (by omega) (by omega) (fun c14 => ?_) (fun c14 => ?_)
  · exact L41 _ _ _ (by exact Or.inl rfl) (by rw [show shr1 S x k s = s from if_neg (by omega)]; exact hRB) (by exact fun _ => if_neg (by omega))
  · refine j_aload_n C dX3_shorten_17 rfl ?_
    refine j_aload_n C dX3_shorten_18 rfl ?_
    refine j_getN C 4 0 5 rfl rfl rfl wU_X0 (by decide) wFN_X3_54 rfl dX3_shorten_19 ?_
    refine j_iload_n C dX3_shorten_22 rfl ?_
    refine j_iald C 4 1 rfl rfl dX3_shorten_23 (by decide) (by omega) (by omega) ?_
    refine j_aload_n C dX3_shorten_24 rfl ?_
    refine j_getN C 4 0 6 rfl rfl rfl wU_X0 (by decide) wFN_X3_64 rfl dX3_shorten_25 ?_
    refine j_iload_n C dX3_shorten_28 rfl ?_
    refine j_iald C 4 2 rfl rfl dX3_shorten_29 (by decide) (by omega) (by omega) ?_
    refine j_aload_n C dX3_shorten_30 rfl ?_
    refine j_getN C 4 0 8 rfl rfl rfl wU_X0 (by decide) wFN_X3_75 rfl dX3_shorten_31 ?_
    refine j_iload_n C dX3_shorten_34 rfl ?_
    refine j_iald C 4 4 rfl rfl dX3_shorten_35 (by decide) (by omega) (by omega) ?_
    refine j_iload_n C dX3_shorten_36 rfl ?_
    refine j_perm (pm_5_0_2_3 _ _ _ _ _) ?_
    refine j_callVi C (As := [.int (iI _), .int (iI _), .int (iI _), .int (iI _)]) (c_X3_reach _ _ _ _ _ _ _ _ _ _ (by first | assumption | omega) (by first | assumption | omega) (by first | assumption | omega) (by first | assumption | omega) (by first | assumption | omega)) 4 nf_X3_reach (jb := 0) rfl rfl wL_X3_78 wI_X3_reach wSe_X3_X3_reach wIn_X3 wC_X3_reach rfl rfl (by decide) dX3_shorten_37 (Nat.le_of_ble_eq_true rfl) ⟨Nat.le_of_ble_eq_true rfl, Nat.le_of_ble_eq_true rfl⟩ (fun x37 u37 h37 => ?_)
    refine j_perm (pr_5_0_2_3 _ _ _ _ _) ?_
    have r37 := RB_rch (w := 2 * k) hRB (by omega) (by omega) ⟨by omega, by omega⟩ h37
    have e37 : shr1 S x k s = rch (fr S k) (tO S k) (ra S k) (2 * k) s := if_pos (by omega)
    rw [← e37] at r37
    refine j_istn_3 C dX3_shorten_40 rfl ?_
    exact L41 _ _ _ (by exact r37.2.2) (by exact r37.1) (by exact r37.2.1)
set_option maxHeartbeats 4000000 in
set_option maxRecDepth 100000 in
theorem c_X3_measure (l : Launch) (D : va_G) (cA : Nat → ClassId) (m : Nat → Nat) (X E D1 B1 : Int → Int) (b : Nat → Nat) (S x e : Int → Int) (hI : Inv S) (hL : LI S x e) (hX : AG (S 1) X x) (hE : AG 7 E e) : MV (U := (Int → Int) × (Int → Int)) l yX3_measure cX3_measure 5 none (rmN 4 0 0) D cA [.ref (m 0), .ref (b 0)] [rmO m, [(m 1, aJ (cA 0) 40 X)], [(m 2, aJ (cA 0) 7 E)], [(m 3, aJ (cA 0) 7 D1)], [(m 4, aJ (cA 0) 7 B1)], bk cA b S] (fun u => RB (meas S x e) u.1 u.2) (fun u => [rmO m, [(m 1, aJ (cA 0) 40 X)], [(m 2, aJ (cA 0) 7 E)], [(m 3, aJ (cA 0) 7 u.1)], [(m 4, aJ (cA 0) 7 u.2)], bk cA b S]) := by
  refine m_startV pn_X3 rfl (List.forall_mem_cons.mpr ⟨rfl, List.forall_mem_cons.mpr ⟨rfl, fun _ h => absurd h List.not_mem_nil⟩⟩) (Nat.le_of_ble_eq_true rfl) ?_
  intro K C e1 e2 e3 hin hR
  subst e1 e2 e3
  have hN := hI.2.1
  show J K 0 0 [rmO m, [(m 1, aJ ((kC K) 0) 40 X)], [(m 2, aJ ((kC K) 0) 7 E)], [(m 3, aJ ((kC K) 0) 7 D1)], [(m 4, aJ ((kC K) 0) 7 B1)], bk (kC K) b S] [some (.ref (m 0)), some (.ref (b 0)), none, none, none] 0 []
  refine j_iconst C dX3_measure_0 ?_
  refine j_istn_2 C dX3_measure_1 rfl ?_
  have L2 : ∀ (fuel : Nat) (i : Int) (D2 B2 : Int → Int) (hi : 0 ≤ i ∧ i ≤ 7) (h2 : ∀ q : Int, 0 ≤ q → q < i → D2 q = (ini e).1 q ∧ B2 q = -1) (hf2 : (7 - i).toNat < fuel), J K 0 0 [rmO m, [(m 1, aJ ((kC K) 0) 40 X)], [(m 2, aJ ((kC K) 0) 7 E)], [(m 3, aJ ((kC K) 0) 7 D2)], [(m 4, aJ ((kC K) 0) 7 B2)], bk (kC K) b S] [some (.ref (m 0)), some (.ref (b 0)), some (.int (iI i)), none, none] 2 [] := by
    intro fuel
    induction fuel with
    | zero => intro i D2 B2 hi h2 hf2; exact absurd hf2 (Nat.not_lt_zero _)
    | succ fuel ih2 =>
      intro i D2 B2 hi h2 hf2
      refine j_iload_n C dX3_measure_2 rfl ?_
      refine j_bipush C dX3_measure_3 (by decide) ?_
      refine j_icmp_ge (tgt := 42) C dX3_measure_5 (by decide) (by omega) (by omega) (by omega) (by omega) (fun c5 => ?_) (fun c5 => ?_)
      · refine j_iconst C dX3_measure_42 ?_
        refine j_istn_2 C dX3_measure_43 rfl ?_
        refine j_iconst C dX3_measure_44 ?_
        refine j_istn_3 C dX3_measure_45 rfl ?_
        have L46 : ∀ (fuel : Nat) (r y : Int) (D3 B3 : Int → Int) (hr : 0 ≤ r ∧ r ≤ 7) (hy : y = 0 ∨ y = 1) (h3 : RB (rnds S x r.toNat (ini e)) D3 B3) (h30 : y = 0 → ∀ r2, rnds S x r2 (rnds S x r.toNat (ini e)) = rnds S x r.toNat (ini e)) (hf46 : (7 - r).toNat < fuel), J K 0 0 [rmO m, [(m 1, aJ ((kC K) 0) 40 X)], [(m 2, aJ ((kC K) 0) 7 E)], [(m 3, aJ ((kC K) 0) 7 D3)], [(m 4, aJ ((kC K) 0) 7 B3)], bk (kC K) b S] [some (.ref (m 0)), some (.ref (b 0)), some (.int (iI y)), some (.int (iI r)), none] 46 [] := by
          intro fuel
          induction fuel with
          | zero => intro r y D3 B3 hr hy h3 h30 hf46; exact absurd hf46 (Nat.not_lt_zero _)
          | succ fuel ih46 =>
            intro r y D3 B3 hr hy h3 h30 hf46
            refine j_iload_n C dX3_measure_46 rfl ?_
            refine j_bipush C dX3_measure_47 (by decide) ?_
            refine j_icmp_ge (tgt := 103) C dX3_measure_49 (by decide) (by omega) (by omega) (by omega) (by omega) (fun c49 => ?_) (fun c49 => ?_)
            · refine hR (D3, B3) dX3_measure_103 ?_ rfl (Nat.le_of_ble_eq_true rfl) (Nat.le_of_ble_eq_true rfl)
              first | (rw [show r.toNat = 7 by omega] at h3; exact h3) | (have e7 : meas S x e = rnds S x r.toNat (ini e) := by (have := rnds_add (S := S) (x := x) (s := ini e) r.toNat (7 - r.toNat); rw [show 7 - r.toNat + r.toNat = 7 by omega, h30 (by omega)] at this; exact this)); (rw [e7]; exact h3)
            · refine j_iload_n C dX3_measure_52 rfl ?_
              refine j_if_eq (tgt := 103) C dX3_measure_53 (by decide) (by omega) (by omega) (fun c53 => ?_) (fun c53 => ?_)
              · refine hR (D3, B3) dX3_measure_103 ?_ rfl (Nat.le_of_ble_eq_true rfl) (Nat.le_of_ble_eq_true rfl)
                first | (rw [show r.toNat = 7 by omega] at h3; exact h3) | (have e7 : meas S x e = rnds S x r.toNat (ini e) := by (have := rnds_add (S := S) (x := x) (s := ini e) r.toNat (7 - r.toNat); rw [show 7 - r.toNat + r.toNat = 7 by omega, h30 (by omega)] at this; exact this)); (rw [e7]; exact h3)
              · refine j_iconst C dX3_measure_56 ?_
                refine j_istn_2 C dX3_measure_57 rfl ?_
                refine j_iconst C dX3_measure_58 ?_
                refine j_ist_4 C dX3_measure_59 rfl ?_
                have L61 : ∀ (fuel : Nat) (i z : Int) (D4 B4 : Int → Int) (hi : 0 ≤ i ∧ i ≤ S 1) (hz : z = 0 ∨ z = 1) (h4 : RB (rndN S x i.toNat (rnds S x r.toNat (ini e))) D4 B4) (h40 : z = 0 → rndN S x i.toNat (rnds S x r.toNat (ini e)) = rnds S x r.toNat (ini e)) (hf61 : (S 1 - i).toNat < fuel), J K 0 0 [rmO m, [(m 1, aJ ((kC K) 0) 40 X)], [(m 2, aJ ((kC K) 0) 7 E)], [(m 3, aJ ((kC K) 0) 7 D4)], [(m 4, aJ ((kC K) 0) 7 B4)], bk (kC K) b S] [some (.ref (m 0)), some (.ref (b 0)), some (.int (iI z)), some (.int (iI r)), some (.int (iI i))] 61 [] := by
                  intro fuel
                  induction fuel with
                  | zero => intro i z D4 B4 hi hz h4 h40 hf61; exact absurd hf61 (Nat.not_lt_zero _)
                  | succ fuel ih61 =>
                    intro i z D4 B4 hi hz h4 h40 hf61
                    refine j_iload C dX3_measure_61 rfl ?_
                    refine j_aload_n C dX3_measure_63 rfl ?_
                    refine j_getN C 5 0 1 rfl rfl rfl wU_X0 (by decide) wFN_X3_44 rfl dX3_measure_64 ?_
                    refine j_icmp_ge (tgt := 97) C dX3_measure_67 (by decide) (by omega) (by omega) (by omega) (by omega) (fun c67 => ?_) (fun c67 => ?_)
                    · refine j_iinc_3 C dX3_measure_97 rfl ?_
                      refine j_goto (tgt := 46) C dX3_measure_100 (by decide) ?_
                      exact j_lle (lv' := [_, _, _, _, none]) ⟨Or.inr rfl, ⟨Or.inr rfl, ⟨Or.inr rfl, ⟨Or.inr rfl, ⟨Or.inl rfl, trivial⟩⟩⟩⟩⟩ (ih46 _ _ _ _ (by omega) (by exact hz) (by rw [show (r + 1).toNat = r.toNat + 1 by omega, rnds]; unfold rnd; rw [show (S 1).toNat = i.toNat by omega]; exact h4) (by intro q; rw [show (r + 1).toNat = r.toNat + 1 by omega, rnds]; have h5 := h40 q; rw [show i.toNat = (S 1).toNat by omega] at h5; have h6 : rnd S x (rnds S x r.toNat (ini e)) = rnds S x r.toNat (ini e) := h5; rw [h6]; exact rnd_fix h6) (by omega))
                    · have L91 : ∀ (w : Int) (D5 B5 : Int → Int) (hw : w = 0 ∨ w = 1) (h5 : RB (rndN S x (i + 1).toNat (rnds S x r.toNat (ini e))) D5 B5) (h50 : w = 0 → rndN S x (i + 1).toNat (rnds S x r.toNat (ini e)) = rnds S x r.toNat (ini e)), J K 0 0 [rmO m, [(m 1, aJ ((kC K) 0) 40 X)], [(m 2, aJ ((kC K) 0) 7 E)], [(m 3, aJ ((kC K) 0) 7 D5)], [(m 4, aJ ((kC K) 0) 7 B5)], bk (kC K) b S] [some (.ref (m 0)), some (.ref (b 0)), some (.int (iI w)), some (.int (iI r)), some (.int (iI i))] 91 [] := by
                        intro w D5 B5 hw h5 h50
                        refine j_iinc_4 C dX3_measure_91 rfl ?_
                        refine j_goto (tgt := 61) C dX3_measure_94 (by decide) ?_
                        exact ih61 _ _ _ _ (by omega) (by omega) (by exact h5) (by exact h50) (by omega)
                      have hbd := rnd_Bd hI hL r.toNat i.toNat (by omega)
                      rw [show ((i.toNat : Nat) : Int) = i by omega] at hbd
                      have hxi := hL.1 i hi.1 (by omega)
                      have hXi := hX i hi.1 (by omega)
                      refine j_aload_n C dX3_measure_70 rfl ?_
                      refine j_iload C dX3_measure_71 rfl ?_
                      refine j_perm (pm_6_5 _ _ _ _ _ _) ?_
                      refine j_callVi C (As := [.int (iI _)]) (c_X0_isOwing _ _ _ _ _ _ (by first | assumption | omega) (by first | assumption | omega)) 1 nf_X0_isOwing (jb := 0) rfl rfl wL_X3_50 wI_X0_isOwing wSe_X0_X0_isOwing wIn_X0 wC_X0_isOwing rfl rfl (by decide) dX3_measure_73 (Nat.le_of_ble_eq_true rfl) ⟨Nat.le_of_ble_eq_true rfl, Nat.le_of_ble_eq_true rfl⟩ (fun x73 u73 h73 => ?_)
                      refine j_perm (pr_6_5 _ _ _ _ _ _) ?_
                      have es : ¬ x73 = 0 → rndN S x (i + 1).toNat (rnds S x r.toNat (ini e)) = shr2 S x i (shr1 S x i (rndN S x i.toNat (rnds S x r.toNat (ini e)))) := fun q => by
                        rw [h73] at q
                        rw [show (i + 1).toNat = i.toNat + 1 by omega, rndN, show ((i.toNat : Nat) : Int) = i by omega, if_pos (by split at q <;> omega)]
                      have en : x73 = 0 → rndN S x (i + 1).toNat (rnds S x r.toNat (ini e)) = rndN S x i.toNat (rnds S x r.toNat (ini e)) := fun q => by
                        rw [h73] at q
                        rw [show (i + 1).toNat = i.toNat + 1 by omega, rndN, show ((i.toNat : Nat) : Int) = i by omega, if_neg (by split at q <;> omega)]
                      refine j_if_eq (tgt := 91) C dX3_measure_76 (by decide) (by omega) (by omega) (fun c76 => ?_) (fun c76 => ?_)
                      · exact L91 _ _ _ (by omega) (by first | (rw [es c76]; exact h83.2.1) | (rw [en c76]; exact h4)) (by intro q; first | (rw [es c76, h83.2.2 (by omega)]; exact h40 (by omega)) | (rw [en c76]; exact h40 q) | omega)
                      · refine j_aload_n C dX3_measure_79 rfl ?_
                        refine j_aload_n C dX3_measure_80 rfl ?_
                        refine j_iload C dX3_measure_81 rfl ?_
                        refine j_perm (pm_6_0_1_3_4_5 _ _ _ _ _ _) ?_
                        refine j_callVi C (As := [.ref _, .int (iI _)]) (c_X3_shorten _ _ _ _ _ _ _ _ _ _ _ _ (by first | assumption | omega) (by first | assumption | omega) (by first | assumption | omega) (by exact ⟨hxi.1, hxi.2.1⟩) (by exact h4) (by exact hbd.1) (by exact hbd.2 (by omega) (by rw [h73] at c76; split at c76 <;> omega))) 2 nf_X3_shorten (jb := 0) rfl rfl wL_X3_71 wI_X3_shorten wSe_X3_X3_shorten wIn_X3 wC_X3_shorten rfl rfl (by decide) dX3_measure_83 (Nat.le_of_ble_eq_true rfl) ⟨Nat.le_of_ble_eq_true rfl, Nat.le_of_ble_eq_true rfl⟩ (fun x83 u83 h83 => ?_)
                        refine j_perm (pr_6_0_1_3_4_5 _ _ _ _ _ _) ?_
                        refine j_if_eq (tgt := 91) C dX3_measure_86 (by decide) (by omega) (by omega) (fun c86 => ?_) (fun c86 => ?_)
                        · exact L91 _ _ _ (by omega) (by first | (rw [es c76]; exact h83.2.1) | (rw [en c76]; exact h4)) (by intro q; first | (rw [es c76, h83.2.2 (by omega)]; exact h40 (by omega)) | (rw [en c76]; exact h40 q) | omega)
                        · refine j_iconst C dX3_measure_89 ?_
                          refine j_istn_2 C dX3_measure_90 rfl ?_
                          exact L91 _ _ _ (by omega) (by first | (rw [es c76]; exact h83.2.1) | (rw [en c76]; exact h4)) (by intro q; first | (rw [es c76, h83.2.2 (by omega)]; exact h40 (by omega)) | (rw [en c76]; exact h40 q) | omega)
                exact L61 _ _ _ _ _ (by omega) (by omega) (by exact h3) (by exact fun _ => rfl) (Nat.lt_succ_self _)
        exact L46 _ _ _ _ _ (by omega) (by omega) (by intro q a b; have := h2 q a (by omega); exact ⟨this.1, this.2⟩) (by intro q; omega) (Nat.lt_succ_self _)
      · refine j_aload_n C dX3_measure_8 rfl ?_
        refine j_get C 0 0 2 rfl rfl rfl wU_X3 (by decide) wF_X3_18 rfl dX3_measure_9 ?_
        refine j_iload_n C dX3_measure_12 rfl ?_
        have L28 : ∀ (v : Int) (hv : v = if 0 < e i then 0 else FAR), J K 0 0 [rmO m, [(m 1, aJ ((kC K) 0) 40 X)], [(m 2, aJ ((kC K) 0) 7 E)], [(m 3, aJ ((kC K) 0) 7 D2)], [(m 4, aJ ((kC K) 0) 7 B2)], bk (kC K) b S] [some (.ref (m 0)), some (.ref (b 0)), some (.int (iI i)), none, none] 28 [.int (iI v), .int (iI i), .ref (m 3)] := by
          intro v hv
          refine j_iast_p3 C 0 rfl ar1_ast dX3_measure_28 (by decide) (by omega) (by omega) ?_
          refine j_aload_n C dX3_measure_29 rfl ?_
          refine j_get C 0 0 3 rfl rfl rfl wU_X3 (by decide) wF_X3_21 rfl dX3_measure_30 ?_
          refine j_iload_n C dX3_measure_33 rfl ?_
          refine j_iconst C dX3_measure_34 ?_
          refine j_iast_p4 C 0 rfl ar1_ast dX3_measure_35 (by decide) (by omega) (by omega) ?_
          refine j_iinc_2 C dX3_measure_36 rfl ?_
          refine j_goto (tgt := 2) C dX3_measure_39 (by decide) ?_
          exact ih2 _ _ _ (by omega) (by intro q a b; by_cases z : q = i; (subst z; rw [st_s, st_s]; exact ⟨by unfold ini; dsimp only; rw [hv], rfl⟩); (rw [st_n z, st_n z]; exact h2 q a (by omega))) (by omega)
        have hEi := hE i hi.1 (by omega)
        have hLi := hL.2.2 i hi.1 (by omega)
        refine j_aload_n C dX3_measure_13 rfl ?_
        refine j_get C 0 0 1 rfl rfl rfl wU_X3 (by decide) wF_X3_15 rfl dX3_measure_14 ?_
        refine j_iload_n C dX3_measure_17 rfl ?_
        refine j_iald C 2 0 rfl rfl dX3_measure_18 (by decide) (by omega) (by omega) ?_
        refine j_if_le (tgt := 26) C dX3_measure_19 (by decide) (by omega) (by omega) (fun c19 => ?_) (fun c19 => ?_)
        · refine j_ldc C 1000000 (by decide) wN_X3_70 dX3_measure_26 ?_
          exact L28 _ (by first | (rw [if_pos (by have := hE i hi.1 (by omega); omega)]) | (rw [if_neg (by have := hE i hi.1 (by omega); omega)]; rfl))
        · refine j_iconst C dX3_measure_22 ?_
          refine j_goto (tgt := 28) C dX3_measure_23 (by decide) ?_
          exact L28 _ (by first | (rw [if_pos (by have := hE i hi.1 (by omega); omega)]) | (rw [if_neg (by have := hE i hi.1 (by omega); omega)]; rfl))
  exact L2 _ _ _ _ (by omega) (by intro q a b; omega) (Nat.lt_succ_self _)
