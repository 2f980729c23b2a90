/-! the reference: the text, letter by letter -/
def PKr (G u : Int → Int) : Prop := ∀ j : Int, j ≠ 8 → j ≠ 9 → j ≠ 10 → u j = G j
def SGr (t G : Int → Int) (w : Int) (u : Int → Int) : Prop := PKr G u ∧ ((G 9 = -1 ∧ pk t (G 1) (G 8) = w ∧ u 8 = G 8 + 1 ∧ u 9 = -1) ∨ (G 9 = -1 ∧ pk t (G 1) (G 8) ≠ w ∧ u 8 = G 8 ∧ u 9 = G 8) ∨ (G 9 ≠ -1 ∧ u 8 = G 8 ∧ u 9 = G 9))
def DGr (t G : Int → Int) (lo hi : Int) (u : Int → Int) : Prop := PKr G u ∧ ((G 9 = -1 ∧ (lo ≤ pk t (G 1) (G 8) - 48 ∧ pk t (G 1) (G 8) - 48 ≤ hi) ∧ u 10 = pk t (G 1) (G 8) - 48 ∧ u 8 = G 8 + 1 ∧ u 9 = -1) ∨ (G 9 = -1 ∧ ¬ (lo ≤ pk t (G 1) (G 8) - 48 ∧ pk t (G 1) (G 8) - 48 ≤ hi) ∧ u 8 = G 8 ∧ u 9 = G 8) ∨ (G 9 ≠ -1 ∧ u 8 = G 8 ∧ u 9 = G 9))
def NGr (t G : Int → Int) (d : Nat) (lo hi : Int) (u : Int → Int) : Prop := PKr G u ∧ ((G 9 = -1 ∧ fE t (G 1) d lo hi (G 8) = -1 ∧ u 10 = fV t (G 1) d (G 8) 0 ∧ u 8 = G 8 + fK t (G 1) d (G 8) ∧ u 9 = -1 ∧ lo ≤ u 10 ∧ u 10 ≤ hi) ∨ (G 9 = -1 ∧ fE t (G 1) d lo hi (G 8) ≠ -1 ∧ (0 ≤ u 8 ∧ u 8 ≤ G 1) ∧ u 9 = fE t (G 1) d lo hi (G 8)) ∨ (G 9 ≠ -1 ∧ u 8 = G 8 ∧ u 9 = G 9))
def FGr (t G : Int → Int) (d : Nat) (lo hi c : Int) (G2 : Int → Int) : Prop := PKr G G2 ∧ (0 ≤ G2 8 ∧ G2 8 ≤ G 1) ∧ ((G2 9 = -1 ∧ G 9 = -1 ∧ G2 8 = G 8 + c ∧ (0 ≤ c ∧ c ≤ d) ∧ fK t (G 1) d (G 8) = c + fK t (G 1) (d - c.toNat) (G 8 + c) ∧ fV t (G 1) d (G 8) 0 = fV t (G 1) (d - c.toNat) (G 8 + c) (G2 10) ∧ 0 ≤ G2 10 ∧ ((c = 0 ∧ G2 10 = 0) ∨ (c = 1 ∧ G2 10 ≤ 9) ∨ (c = 2 ∧ G2 10 ≤ 99) ∨ (c = 3 ∧ G2 10 ≤ 999) ∨ (c = 4 ∧ G2 10 ≤ 9999))) ∨
  (G2 9 ≠ -1 ∧ ((G 9 ≠ -1 ∧ G2 9 = G 9 ∧ G2 8 = G 8) ∨ (G 9 = -1 ∧ fE t (G 1) d lo hi (G 8) ≠ -1 ∧ G2 9 = fE t (G 1) d lo hi (G 8)))))
theorem SGr_bad {t G u : Int → Int} {w : Int} (h : SGr t G w u) (hb : G 9 ≠ -1) : u 8 = G 8 ∧ u 9 = G 9 ∧ u 1 = G 1 := by
  refine ⟨?_, ?_, h.1 1 (by omega) (by omega) (by omega)⟩ <;> rcases h.2 with q | q | q <;> omega
theorem DGr_bad {t G u : Int → Int} {lo hi : Int} (h : DGr t G lo hi u) (hb : G 9 ≠ -1) : u 8 = G 8 ∧ u 9 = G 9 ∧ u 1 = G 1 := by
  refine ⟨?_, ?_, h.1 1 (by omega) (by omega) (by omega)⟩ <;> rcases h.2 with q | q | q <;> omega
theorem NGr_bad {t G u : Int → Int} {d : Nat} {lo hi : Int} (h : NGr t G d lo hi u) (hb : G 9 ≠ -1) : u 8 = G 8 ∧ u 9 = G 9 ∧ u 1 = G 1 := by
  refine ⟨?_, ?_, h.1 1 (by omega) (by omega) (by omega)⟩ <;> rcases h.2 with q | q | q <;> first | exact absurd q.1 hb | exact q.2.1 | exact q.2.2
theorem PKr_st {G u : Int → Int} {i x : Int} (h : PKr G u) (hi : 8 ≤ i ∧ i ≤ 10) : PKr G (st u i x) := fun j a b c => (st_n (by omega)).trans (h j a b c)
theorem PKr_r (G : Int → Int) : PKr G G := fun _ _ _ _ => rfl
theorem FGr_s {t G : Int → Int} {d : Nat} {lo hi c : Int} {G2 : Int → Int} (h : FGr t G d lo hi c G2) (hw : G2 9 = -1) (hd : 48 ≤ pk t (G 1) (G2 8) ∧ pk t (G 1) (G2 8) ≤ 57) (hc : c < d) (hd4 : d ≤ 4) (hn : G2 8 + 1 ≤ G 1) : FGr t G d lo hi (c + 1) (st (st G2 10 (10 * G2 10 + pk t (G 1) (G2 8) - 48)) 8 (G2 8 + 1)) := by
  obtain ⟨hp, hr, h | h⟩ := h
  · obtain ⟨h1, h2, h3, h4, h5, h6, h7, h8⟩ := h
    have e8 : st (st G2 10 (10 * G2 10 + pk t (G 1) (G2 8) - 48)) 8 (G2 8 + 1) 8 = G2 8 + 1 := st_s _ _ _
    have e9 : st (st G2 10 (10 * G2 10 + pk t (G 1) (G2 8) - 48)) 8 (G2 8 + 1) 9 = -1 := by rw [st_n (by omega), st_n (by omega)]; exact h1
    have e10 : st (st G2 10 (10 * G2 10 + pk t (G 1) (G2 8) - 48)) 8 (G2 8 + 1) 10 = 10 * G2 10 + pk t (G 1) (G2 8) - 48 := by rw [st_n (by omega), st_s]
    refine ⟨PKr_st (PKr_st hp (by omega)) (by omega), by rw [e8]; omega, Or.inl ⟨e9, h2, by rw [e8]; omega, by omega, ?_, ?_, by rw [e10]; omega, by rw [e10]; omega⟩⟩
    · rw [h5, show d - c.toNat = (d - (c + 1).toNat) + 1 by omega, fK_s (by rw [← h3]; exact hd), show G 8 + c + 1 = G 8 + (c + 1) by omega]
      omega
    · rw [e10, h6, show d - c.toNat = (d - (c + 1).toNat) + 1 by omega, fV_s (by rw [← h3]; exact hd), show G 8 + c + 1 = G 8 + (c + 1) by omega, h3]
      congr 1
      omega
  · exact absurd hw h.1
theorem FGr_x {t G : Int → Int} {d : Nat} {lo hi c : Int} {G2 : Int → Int} (h : FGr t G d lo hi c G2) (hw : G2 9 = -1) (hd : 48 ≤ pk t (G 1) (G2 8) ∧ pk t (G 1) (G2 8) ≤ 57) (hc : c = d) : FGr t G d lo hi c (st G2 9 (if G2 9 = -1 then G2 8 else G2 9)) := by
  obtain ⟨hp, hr, h | h⟩ := h
  · obtain ⟨h1, h2, h3, h4, h5, h6, h7, h8⟩ := h
    have e8 : st G2 9 (if G2 9 = -1 then G2 8 else G2 9) 8 = G2 8 := st_n (by omega)
    have e9 : st G2 9 (if G2 9 = -1 then G2 8 else G2 9) 9 = G2 8 := by rw [st_s, if_pos hw]
    have e5 : fK t (G 1) d (G 8) = d := by rw [h5, show d - c.toNat = 0 by omega, fK]; omega
    have eE : fE t (G 1) d lo hi (G 8) = G2 8 := by
      unfold fE
      rw [e5, if_pos (Or.inr (by rw [← hc, ← h3]; exact hd))]
      omega
    exact ⟨PKr_st hp (by omega), by rw [e8]; exact hr, Or.inr ⟨by rw [e9]; omega, Or.inr ⟨h2, by omega, by rw [e9]; exact eE.symm⟩⟩⟩
  · exact absurd hw h.1
theorem FGr_e {t G : Int → Int} {d : Nat} {lo hi c : Int} {G2 : Int → Int} (h : FGr t G d lo hi c G2) (hw : G2 9 = -1) (hd : ¬ (48 ≤ pk t (G 1) (G2 8) ∧ pk t (G 1) (G2 8) ≤ 57)) : (G2 8 = G 8 + c ∧ fK t (G 1) d (G 8) = c ∧ fV t (G 1) d (G 8) 0 = G2 10 ∧ G 9 = -1) ∧ fE t (G 1) d lo hi (G 8) = if c = 0 then G 8 else if G2 10 < lo ∨ hi < G2 10 then G 8 else -1 := by
  obtain ⟨hp, hr, h | h⟩ := h
  · obtain ⟨h1, h2, h3, h4, h5, h6, h7, h8⟩ := h
    rw [h3] at hd
    rw [fK_e hd] at h5
    rw [fV_e hd] at h6
    have e5 : fK t (G 1) d (G 8) = c := by omega
    refine ⟨⟨h3, e5, h6, h2⟩, ?_⟩
    unfold fE
    rw [e5, h6]
    by_cases c0 : c = 0
    · rw [if_pos (Or.inl c0), if_pos c0, c0]
      omega
    · rw [if_neg (fun q => by rcases q with q | q; exact c0 q; exact hd q), if_neg c0]
  · exact absurd hw h.1
set_option maxHeartbeats 800000 in
set_option maxRecDepth 100000 in
theorem c_X6_look (l : Launch) (D : va_G) (cA : Nat → ClassId) (a : Nat → Nat) (G t : Int → Int) (hb : TX t (G 1)) (h8 : 0 ≤ G 8 ∧ G 8 ≤ G 1) : MI (U := Unit) l yX6_look cX6_look 1 (some .int) (rmN 1 0 0) D cA [.ref (a 0)] [mO a G, [(a 4, aJ (cA 0) 100 t)]] (fun x _ => x = pk t (G 1) (G 8)) (fun _ => [mO a G, [(a 4, aJ (cA 0) 100 t)]]) := by
  refine m_startI pn_X6 rfl (List.forall_mem_cons.mpr ⟨rfl, fun _ h => absurd h List.not_mem_nil⟩) (Nat.le_of_ble_eq_true rfl) ?_
  intro K C e1 e2 e3 hin hR
  subst e1 e2 e3
  have hb1 := hb.1
  show J K 0 0 [mO a G, [(a 4, aJ ((kC K) 0) 100 t)]] [some (.ref (a 0))] 0 []
  refine j_aload_n C dX6_look_0 rfl ?_
  refine j_get C 0 0 21 rfl rfl rfl wU_X6 (by decide) wF_X6_210 rfl dX6_look_1 ?_
  refine j_aload_n C dX6_look_4 rfl ?_
  refine j_get C 0 0 5 rfl rfl rfl wU_X6 (by decide) wF_X6_207 rfl dX6_look_5 ?_
  refine j_icmp_ge (tgt := 23) C dX6_look_8 (by decide) (by omega) (by omega) (by omega) (by omega) (fun c8 => ?_) (fun c8 => ?_)
  · refine j_iconst C dX6_look_23 ?_
    exact hR () dX6_look_24 (by unfold pk; first | (rw [if_pos (by omega)]; done) | (rw [if_neg (by omega)]; done)) rfl (Nat.le_of_ble_eq_true rfl) (Nat.le_of_ble_eq_true rfl)
  · refine j_aload_n C dX6_look_11 rfl ?_
    refine j_get C 0 0 4 rfl rfl rfl wU_X6 (by decide) wF_X6_19 rfl dX6_look_12 ?_
    refine j_aload_n C dX6_look_15 rfl ?_
    refine j_get C 0 0 21 rfl rfl rfl wU_X6 (by decide) wF_X6_210 rfl dX6_look_16 ?_
    refine j_iald C 1 0 rfl rfl dX6_look_19 (by decide) (by omega) (by omega) ?_
    refine j_goto (tgt := 24) C dX6_look_20 (by decide) ?_
    exact hR () dX6_look_24 (by unfold pk; first | (rw [if_pos (by omega)]; done) | (rw [if_neg (by omega)]; done)) rfl (Nat.le_of_ble_eq_true rfl) (Nat.le_of_ble_eq_true rfl)
set_option maxHeartbeats 800000 in
set_option maxRecDepth 100000 in
theorem c_X6_fails (l : Launch) (D : va_G) (cA : Nat → ClassId) (a : Nat → Nat) (G : Int → Int) (p : Int) (h9 : -1 ≤ G 9 ∧ G 9 ≤ 1000) : MV (U := Unit) l yX6_fails cX6_fails 2 none (rmN 1 0 0) D cA [.ref (a 0), .int (iI p)] [mO a G] (fun _ => True) (fun _ => [mO a (st G 9 (if G 9 = -1 then p else G 9))]) := by
  refine m_startV pn_X6 rfl (List.forall_mem_cons.mpr ⟨rfl, List.forall_mem_cons.mpr ⟨rfl, fun _ h => absurd h List.not_mem_nil⟩⟩) (Nat.le_of_ble_eq_true rfl) ?_
  intro K C e1 e2 e3 hin hR
  subst e1 e2 e3
  show J K 0 0 [mO a G] [some (.ref (a 0)), some (.int (iI p))] 0 []
  have L17 : ∀ (v : Int) (hv : v = if G 9 = -1 then p else G 9), J K 0 0 [mO a G] [some (.ref (a 0)), some (.int (iI p))] 17 [.int (iI v), .ref (a 0)] := by
    intro v hv
    refine j_put_p0 C 0 22 rfl mO_put9 rfl wU_X6 tyX6_ok nmX6 (by decide) wF_X6_213 rfl rfl rfl (Nat.le_of_ble_eq_true rfl) dX6_fails_17 ?_
    exact hR () dX6_fails_20 (by trivial) (by rw [hv]) (Nat.le_of_ble_eq_true rfl) (Nat.le_of_ble_eq_true rfl)
  refine j_aload_n C dX6_fails_0 rfl ?_
  refine j_aload_n C dX6_fails_1 rfl ?_
  refine j_get C 0 0 22 rfl rfl rfl wU_X6 (by decide) wF_X6_213 rfl dX6_fails_2 ?_
  refine j_iconst C dX6_fails_5 ?_
  refine j_icmp_ne (tgt := 13) C dX6_fails_6 (by decide) (by omega) (by omega) (by omega) (by omega) (fun c6 => ?_) (fun c6 => ?_)
  · refine j_aload_n C dX6_fails_13 rfl ?_
    refine j_get C 0 0 22 rfl rfl rfl wU_X6 (by decide) wF_X6_213 rfl dX6_fails_14 ?_
    exact L17 _ (by first | (rw [if_pos (by omega)]; done) | (rw [if_neg (by omega)]; done))
  · refine j_iload_n C dX6_fails_9 rfl ?_
    refine j_goto (tgt := 17) C dX6_fails_10 (by decide) ?_
    exact L17 _ (by first | (rw [if_pos (by omega)]; done) | (rw [if_neg (by omega)]; done))
set_option maxHeartbeats 800000 in
set_option maxRecDepth 100000 in
theorem c_X6_sign (l : Launch) (D : va_G) (cA : Nat → ClassId) (a : Nat → Nat) (G t : Int → Int) (w : Int) (hb : TX t (G 1)) (h8 : 0 ≤ G 8 ∧ G 8 ≤ G 1) (h9 : -1 ≤ G 9 ∧ G 9 ≤ 1000) (hw : 0 ≤ w ∧ w ≤ 127) : MV (U := Int → Int) l yX6_sign cX6_sign 2 none (rmN 2 0 0) D cA [.ref (a 0), .int (iI w)] [mO a G, [(a 4, aJ (cA 0) 100 t)]] (fun u => SGr t G w u) (fun u => [mO a u, [(a 4, aJ (cA 0) 100 t)]]) := by
  refine m_startV pn_X6 rfl (List.forall_mem_cons.mpr ⟨rfl, List.forall_mem_cons.mpr ⟨rfl, fun _ h => absurd h List.not_mem_nil⟩⟩) (Nat.le_of_ble_eq_true rfl) ?_
  intro K C e1 e2 e3 hin hR
  subst e1 e2 e3
  have hpb := pk_bd hb (G 8)
  show J K 0 0 [mO a G, [(a 4, aJ ((kC K) 0) 100 t)]] [some (.ref (a 0)), some (.int (iI w))] 0 []
  have L37 : ∀ (u : Int → Int) (hu : SGr t G w u), J K 0 0 [mO a u, [(a 4, aJ ((kC K) 0) 100 t)]] [some (.ref (a 0)), some (.int (iI w))] 37 [] := by
    intro u hu
    exact hR u dX6_sign_37 (by exact hu) rfl (Nat.le_of_ble_eq_true rfl) (Nat.le_of_ble_eq_true rfl)
  have L29 : ∀ (hno : G 9 ≠ -1 ∨ pk t (G 1) (G 8) ≠ w), J K 0 0 [mO a G, [(a 4, aJ ((kC K) 0) 100 t)]] [some (.ref (a 0)), some (.int (iI w))] 29 [] := by
    intro  hno
    refine j_aload_n C dX6_sign_29 rfl ?_
    refine j_aload_n C dX6_sign_30 rfl ?_
    refine j_get C 0 0 21 rfl rfl rfl wU_X6 (by decide) wF_X6_210 rfl dX6_sign_31 ?_
    refine j_perm (pm_2_0 _ _) ?_
    refine j_callVv C (As := [.int (iI _)]) (c_X6_fails _ _ _ _ _ _ (by first | assumption | omega)) 1 nf_X6_fails (jb := 0) rfl rfl wL_X6_219 wI_X6_fails wSe_X6_X6_fails wIn_X6 wC_X6_fails rfl rfl (by decide) dX6_sign_34 (Nat.le_of_ble_eq_true rfl) ⟨Nat.le_of_ble_eq_true rfl, Nat.le_of_ble_eq_true rfl⟩ (fun u34 h34 => ?_)
    refine j_perm (pr_2_0 _ _) ?_
    exact L37 _ (by refine ⟨PKr_st (PKr_r G) (by omega), ?_⟩; right; rw [st_s, st_n (by omega)]; by_cases c : G 9 = -1; (left; rw [if_pos c]; exact ⟨c, by rcases hno with z | z; exact absurd c z; exact z, rfl, rfl⟩); (right; rw [if_neg c]; exact ⟨c, rfl, rfl⟩))
  refine j_aload_n C dX6_sign_0 rfl ?_
  refine j_get C 0 0 22 rfl rfl rfl wU_X6 (by decide) wF_X6_213 rfl dX6_sign_1 ?_
  refine j_iconst C dX6_sign_4 ?_
  refine j_icmp_ne (tgt := 29) C dX6_sign_5 (by decide) (by omega) (by omega) (by omega) (by omega) (fun c5 => ?_) (fun c5 => ?_)
  · exact L29 (by omega)
  · refine j_aload_n C dX6_sign_8 rfl ?_
    refine j_perm (pm_2_0_1 _ _) ?_
    refine j_callVi C (As := []) (c_X6_look _ _ _ _ _ _ (by first | assumption | omega) (by first | assumption | omega)) 0 nf_X6_look (jb := 0) rfl rfl wL_X6_216 wI_X6_look wSe_X6_X6_look wIn_X6 wC_X6_look rfl rfl (by decide) dX6_sign_9 (Nat.le_of_ble_eq_true rfl) ⟨Nat.le_of_ble_eq_true rfl, Nat.le_of_ble_eq_true rfl⟩ (fun x9 u9 h9 => ?_)
    refine j_perm (pr_2_0_1 _ _) ?_
    refine j_iload_n C dX6_sign_12 rfl ?_
    refine j_icmp_ne (tgt := 29) C dX6_sign_13 (by decide) (by omega) (by omega) (by omega) (by omega) (fun c13 => ?_) (fun c13 => ?_)
    · exact L29 (by omega)
    · refine j_aload_n C dX6_sign_16 rfl ?_
      refine j_dup C dX6_sign_17 rfl ?_
      refine j_get C 0 0 21 rfl rfl rfl wU_X6 (by decide) wF_X6_210 rfl dX6_sign_18 ?_
      refine j_iconst C dX6_sign_21 ?_
      refine j_iadd C dX6_sign_22 ?_
      refine j_put_p0 C 0 21 rfl mO_put8 rfl wU_X6 tyX6_ok nmX6 (by decide) wF_X6_210 rfl rfl rfl (Nat.le_of_ble_eq_true rfl) dX6_sign_23 ?_
      refine j_goto (tgt := 37) C dX6_sign_26 (by decide) ?_
      exact L37 _ (by exact ⟨PKr_st (PKr_r G) (by omega), Or.inl ⟨by omega, by omega, st_s _ _ _, by rw [st_n (by omega)]; omega⟩⟩)
set_option maxHeartbeats 800000 in
set_option maxRecDepth 100000 in
theorem c_X6_digit (l : Launch) (D : va_G) (cA : Nat → ClassId) (a : Nat → Nat) (G t : Int → Int) (lo hi : Int) (hb : TX t (G 1)) (h8 : 0 ≤ G 8 ∧ G 8 ≤ G 1) (h9 : -1 ≤ G 9 ∧ G 9 ≤ 1000) (hlo : 0 ≤ lo ∧ lo ≤ 9) (hhi : 0 ≤ hi ∧ hi ≤ 9) : MV (U := Int → Int) l yX6_digit cX6_digit 3 none (rmN 2 0 0) D cA [.ref (a 0), .int (iI lo), .int (iI hi)] [mO a G, [(a 4, aJ (cA 0) 100 t)]] (fun u => DGr t G lo hi u) (fun u => [mO a u, [(a 4, aJ (cA 0) 100 t)]]) := by
  refine m_startV pn_X6 rfl (List.forall_mem_cons.mpr ⟨rfl, List.forall_mem_cons.mpr ⟨rfl, List.forall_mem_cons.mpr ⟨rfl, fun _ h => absurd h List.not_mem_nil⟩⟩⟩) (Nat.le_of_ble_eq_true rfl) ?_
  intro K C e1 e2 e3 hin hR
  subst e1 e2 e3
  have hpb := pk_bd hb (G 8)
  have e1 : st G 10 0 1 = G 1 := st_n (by omega)
  have e8 : st G 10 0 8 = G 8 := st_n (by omega)
  have e9 : st G 10 0 9 = G 9 := st_n (by omega)
  show J K 0 0 [mO a G, [(a 4, aJ ((kC K) 0) 100 t)]] [some (.ref (a 0)), some (.int (iI lo)), some (.int (iI hi))] 0 []
  refine j_aload_n C dX6_digit_0 rfl ?_
  refine j_iconst C dX6_digit_1 ?_
  refine j_put_p0 C 0 23 rfl mO_put10 rfl wU_X6 tyX6_ok nmX6 (by decide) wF_X6_222 rfl rfl rfl (Nat.le_of_ble_eq_true rfl) dX6_digit_2 ?_
  have L60 : ∀ (u : Int → Int) (hu : DGr t G lo hi u), J K 0 0 [mO a u, [(a 4, aJ ((kC K) 0) 100 t)]] [some (.ref (a 0)), some (.int (iI lo)), some (.int (iI hi))] 60 [] := by
    intro u hu
    exact hR u dX6_digit_60 (by exact hu) rfl (Nat.le_of_ble_eq_true rfl) (Nat.le_of_ble_eq_true rfl)
  have L52 : ∀ (hno : G 9 ≠ -1 ∨ ¬ (lo ≤ pk t (G 1) (G 8) - 48 ∧ pk t (G 1) (G 8) - 48 ≤ hi)), J K 0 0 [mO a (st G 10 0), [(a 4, aJ ((kC K) 0) 100 t)]] [some (.ref (a 0)), some (.int (iI lo)), some (.int (iI hi))] 52 [] := by
    intro  hno
    refine j_aload_n C dX6_digit_52 rfl ?_
    refine j_aload_n C dX6_digit_53 rfl ?_
    refine j_get C 0 0 21 rfl rfl rfl wU_X6 (by decide) wF_X6_210 rfl dX6_digit_54 ?_
    refine j_perm (pm_2_0 _ _) ?_
    refine j_callVv C (As := [.int (iI _)]) (c_X6_fails _ _ _ _ _ _ (by rw [e9]; exact h9)) 1 nf_X6_fails (jb := 0) rfl rfl wL_X6_219 wI_X6_fails wSe_X6_X6_fails wIn_X6 wC_X6_fails rfl rfl (by decide) dX6_digit_57 (Nat.le_of_ble_eq_true rfl) ⟨Nat.le_of_ble_eq_true rfl, Nat.le_of_ble_eq_true rfl⟩ (fun u57 h57 => ?_)
    refine j_perm (pr_2_0 _ _) ?_
    exact L60 _ (by refine ⟨PKr_st (PKr_st (PKr_r G) (by omega)) (by omega), ?_⟩; right; rw [st_s, st_n (by omega), e8, e9]; by_cases c : G 9 = -1; (left; rw [if_pos c]; exact ⟨c, by rcases hno with z | z; exact absurd c z; exact z, rfl, rfl⟩); (right; rw [if_neg c]; exact ⟨c, rfl, rfl⟩))
  refine j_aload_n C dX6_digit_5 rfl ?_
  refine j_get C 0 0 22 rfl rfl rfl wU_X6 (by decide) wF_X6_213 rfl dX6_digit_6 ?_
  refine j_iconst C dX6_digit_9 ?_
  refine j_icmp_ne (tgt := 52) C dX6_digit_10 (by decide) (by omega) (by omega) (by omega) (by omega) (fun c10 => ?_) (fun c10 => ?_)
  · exact L52 (by omega)
  · refine j_aload_n C dX6_digit_13 rfl ?_
    refine j_perm (pm_2_0_1 _ _) ?_
    refine j_callVi C (As := []) (c_X6_look _ _ _ _ _ _ (by rw [e1]; exact hb) (by rw [e1, e8]; exact h8)) 0 nf_X6_look (jb := 0) rfl rfl wL_X6_216 wI_X6_look wSe_X6_X6_look wIn_X6 wC_X6_look rfl rfl (by decide) dX6_digit_14 (Nat.le_of_ble_eq_true rfl) ⟨Nat.le_of_ble_eq_true rfl, Nat.le_of_ble_eq_true rfl⟩ (fun x14 u14 h14 => ?_)
    refine j_perm (pr_2_0_1 _ _) ?_
    rw [e1, e8] at h14
    refine j_bipush C dX6_digit_17 (by decide) ?_
    refine j_isub C dX6_digit_19 ?_
    refine j_iload_n C dX6_digit_20 rfl ?_
    refine j_iload_n C dX6_digit_21 rfl ?_
    refine j_perm (pm_2 _ _) ?_
    refine j_callSi C (As := [.int (iI _), .int (iI _), .int (iI _)]) (c_X6_in _ _ _ _ _ _ (by first | assumption | omega) (by first | assumption | omega) (by first | assumption | omega)) 3 nf_X6_in.2 wL_X6_68 wS_X6_in wIn_X6 wC_X6_in rfl rfl (by decide) dX6_digit_22 (Nat.le_of_ble_eq_true rfl) ⟨Nat.le_of_ble_eq_true rfl, Nat.le_of_ble_eq_true rfl⟩ (fun x22 u22 h22 => ?_)
    refine j_perm (pr_2 _ _) ?_
    have q22 := ite01 h22
    refine j_if_eq (tgt := 52) C dX6_digit_25 (by decide) (by omega) (by omega) (fun c25 => ?_) (fun c25 => ?_)
    · exact L52 (by omega)
    · refine j_aload_n C dX6_digit_28 rfl ?_
      refine j_aload_n C dX6_digit_29 rfl ?_
      refine j_perm (pm_2_0_1 _ _) ?_
      refine j_callVi C (As := []) (c_X6_look _ _ _ _ _ _ (by rw [e1]; exact hb) (by rw [e1, e8]; exact h8)) 0 nf_X6_look (jb := 0) rfl rfl wL_X6_216 wI_X6_look wSe_X6_X6_look wIn_X6 wC_X6_look rfl rfl (by decide) dX6_digit_30 (Nat.le_of_ble_eq_true rfl) ⟨Nat.le_of_ble_eq_true rfl, Nat.le_of_ble_eq_true rfl⟩ (fun x30 u30 h30 => ?_)
      refine j_perm (pr_2_0_1 _ _) ?_
      rw [e1, e8] at h30
      refine j_bipush C dX6_digit_33 (by decide) ?_
      refine j_isub C dX6_digit_35 ?_
      refine j_put_p0 C 0 23 rfl mO_put10 rfl wU_X6 tyX6_ok nmX6 (by decide) wF_X6_222 rfl rfl rfl (Nat.le_of_ble_eq_true rfl) dX6_digit_36 ?_
      refine j_aload_n C dX6_digit_39 rfl ?_
      refine j_dup C dX6_digit_40 rfl ?_
      refine j_get C 0 0 21 rfl rfl rfl wU_X6 (by decide) wF_X6_210 rfl dX6_digit_41 ?_
      refine j_iconst C dX6_digit_44 ?_
      refine j_iadd C dX6_digit_45 ?_
      refine j_put_p0 C 0 21 rfl mO_put8 rfl wU_X6 tyX6_ok nmX6 (by decide) wF_X6_210 rfl rfl rfl (Nat.le_of_ble_eq_true rfl) dX6_digit_46 ?_
      refine j_goto (tgt := 60) C dX6_digit_49 (by decide) ?_
      exact L60 _ (by refine ⟨PKr_st (PKr_st (PKr_st (PKr_r G) (by omega)) (by omega)) (by omega), Or.inl ⟨by omega, by omega, ?_, ?_, ?_⟩⟩; (rw [st_n (by omega), st_s, h30]); (rw [st_s, st_n (by omega), e8]); (rw [st_n (by omega), st_n (by omega), e9]; omega))
set_option maxHeartbeats 800000 in
set_option maxRecDepth 100000 in
theorem c_X6_figures (l : Launch) (D : va_G) (cA : Nat → ClassId) (a : Nat → Nat) (G t : Int → Int) (d lo hi : Int) (hb : TX t (G 1)) (h8 : 0 ≤ G 8 ∧ G 8 ≤ G 1) (h9 : -1 ≤ G 9 ∧ G 9 ≤ 1000) (hd : 0 ≤ d ∧ d ≤ 4) (hlo : 0 ≤ lo ∧ lo ≤ 9999) (hhi : 0 ≤ hi ∧ hi ≤ 9999) : MV (U := Int → Int) l yX6_figures cX6_figures 5 none (rmN 2 0 0) D cA [.ref (a 0), .int (iI d), .int (iI lo), .int (iI hi)] [mO a G, [(a 4, aJ (cA 0) 100 t)]] (fun u => NGr t G d.toNat lo hi u) (fun u => [mO a u, [(a 4, aJ (cA 0) 100 t)]]) := by
  refine m_startV pn_X6 rfl (List.forall_mem_cons.mpr ⟨rfl, List.forall_mem_cons.mpr ⟨rfl, List.forall_mem_cons.mpr ⟨rfl, List.forall_mem_cons.mpr ⟨rfl, fun _ h => absurd h List.not_mem_nil⟩⟩⟩⟩) (Nat.le_of_ble_eq_true rfl) ?_
  intro K C e1 e2 e3 hin hR
  subst e1 e2 e3
  have hb1 := hb.1
  show J K 0 0 [mO a G, [(a 4, aJ ((kC K) 0) 100 t)]] [some (.ref (a 0)), some (.int (iI d)), some (.int (iI lo)), some (.int (iI hi)), none] 0 []
  refine j_aload_n C dX6_figures_0 rfl ?_
  refine j_get C 0 0 21 rfl rfl rfl wU_X6 (by decide) wF_X6_210 rfl dX6_figures_1 ?_
  refine j_ist_4 C dX6_figures_4 rfl ?_
  refine j_aload_n C dX6_figures_6 rfl ?_
  refine j_iconst C dX6_figures_7 ?_
  refine j_put_p0 C 0 23 rfl mO_put10 rfl wU_X6 tyX6_ok nmX6 (by decide) wF_X6_222 rfl rfl rfl (Nat.le_of_ble_eq_true rfl) dX6_figures_8 ?_
  have L11 : ∀ (fuel : Nat) (G2 : Int → Int) (c : Int) (m : Nat) (hF : FGr t G d.toNat lo hi c G2) (h29 : -1 ≤ G2 9 ∧ G2 9 ≤ 1000) (hm : G2 9 = -1 → (d - c).toNat + 1 ≤ m) (hf11 : m < fuel), J K 0 0 [mO a G2, [(a 4, aJ ((kC K) 0) 100 t)]] [some (.ref (a 0)), some (.int (iI d)), some (.int (iI lo)), some (.int (iI hi)), some (.int (iI (G 8)))] 11 [] := by
    intro fuel
    induction fuel with
    | zero => intro G2 c m hF h29 hm hf11; exact absurd hf11 (Nat.not_lt_zero _)
    | succ fuel ih11 =>
      intro G2 c m hF h29 hm hf11
      have e1 : G2 1 = G 1 := hF.1 1 (by omega) (by omega) (by omega)
      have h28 := hF.2.1
      have L87 : ∀ (hx : G2 9 ≠ -1 ∨ ¬ (48 ≤ pk t (G 1) (G2 8) ∧ pk t (G 1) (G2 8) ≤ 57)), J K 0 0 [mO a G2, [(a 4, aJ ((kC K) 0) 100 t)]] [some (.ref (a 0)), some (.int (iI d)), some (.int (iI lo)), some (.int (iI hi)), some (.int (iI (G 8)))] 87 [] := by
        intro  hx
        have L122 : ∀ (u : Int → Int) (hu : NGr t G d.toNat lo hi u), J K 0 0 [mO a u, [(a 4, aJ ((kC K) 0) 100 t)]] [some (.ref (a 0)), some (.int (iI d)), some (.int (iI lo)), some (.int (iI hi)), some (.int (iI (G 8)))] 122 [] := by
          intro u hu
          exact hR u dX6_figures_122 (by exact hu) rfl (Nat.le_of_ble_eq_true rfl) (Nat.le_of_ble_eq_true rfl)
        refine j_aload_n C dX6_figures_87 rfl ?_
        refine j_get C 0 0 22 rfl rfl rfl wU_X6 (by decide) wF_X6_213 rfl dX6_figures_88 ?_
        refine j_iconst C dX6_figures_91 ?_
        refine j_icmp_ne (tgt := 122) C dX6_figures_92 (by decide) (by omega) (by omega) (by omega) (by omega) (fun c92 => ?_) (fun c92 => ?_)
        · exact L122 _ (by refine ⟨hF.1, ?_⟩; rcases hF.2.2 with z | ⟨z, z1 | z1⟩; (exact absurd z.1 (by omega)); (exact Or.inr (Or.inr ⟨z1.1, z1.2.2, z1.2.1⟩)); (exact Or.inr (Or.inl ⟨z1.1, z1.2.1, h28, z1.2.2⟩)))
        · have hE0 := FGr_e hF (by omega) (by omega)
          have hE1 := hE0.1
          have hE := hE0.2
          have hnb : 0 ≤ G2 10 ∧ G2 10 ≤ 9999 := by rcases hF.2.2 with z | z; (have := z.2.2.2.2.2.2; omega); (exact absurd (by omega : G2 9 = -1) z.1)
          have hc0 : 0 ≤ c := by rcases hF.2.2 with z | z; (exact z.2.2.2.1.1); (exact absurd (by omega : G2 9 = -1) z.1)
          refine j_aload_n C dX6_figures_95 rfl ?_
          have L116 : ∀ (hbad : c = 0 ∨ (G2 10 < lo ∨ hi < G2 10)), J K 0 0 [mO a G2, [(a 4, aJ ((kC K) 0) 100 t)]] [some (.ref (a 0)), some (.int (iI d)), some (.int (iI lo)), some (.int (iI hi)), some (.int (iI (G 8)))] 116 [] := by
            intro  hbad
            refine j_aload_n C dX6_figures_116 rfl ?_
            refine j_iload C dX6_figures_117 rfl ?_
            refine j_perm (pm_2_0 _ _) ?_
            refine j_callVv C (As := [.int (iI _)]) (c_X6_fails _ _ _ _ _ _ (by exact h29)) 1 nf_X6_fails (jb := 0) rfl rfl wL_X6_219 wI_X6_fails wSe_X6_X6_fails wIn_X6 wC_X6_fails rfl rfl (by decide) dX6_figures_119 (Nat.le_of_ble_eq_true rfl) ⟨Nat.le_of_ble_eq_true rfl, Nat.le_of_ble_eq_true rfl⟩ (fun u119 h119 => ?_)
            refine j_perm (pr_2_0 _ _) ?_
            exact L122 _ (by refine ⟨PKr_st hF.1 (by omega), Or.inr (Or.inl ⟨hE1.2.2.2, ?_, by rw [st_n (by omega)]; exact h28, ?_⟩)⟩; (rw [hE]; split; omega; (rw [if_pos (by omega)]; omega)); (rw [st_s, if_pos (by omega), hE]; split; rfl; (rw [if_pos (by omega)])))
          refine j_get C 0 0 21 rfl rfl rfl wU_X6 (by decide) wF_X6_210 rfl dX6_figures_96 ?_
          refine j_iload C dX6_figures_99 rfl ?_
          refine j_icmp_eq (tgt := 116) C dX6_figures_101 (by decide) (by omega) (by omega) (by omega) (by omega) (fun c101 => ?_) (fun c101 => ?_)
          · exact L116 (by omega)
          · refine j_aload_n C dX6_figures_104 rfl ?_
            refine j_get C 0 0 23 rfl rfl rfl wU_X6 (by decide) wF_X6_222 rfl dX6_figures_105 ?_
            refine j_iload_n C dX6_figures_108 rfl ?_
            refine j_iload_n C dX6_figures_109 rfl ?_
            refine j_perm (pm_2 _ _) ?_
            refine j_callSi C (As := [.int (iI _), .int (iI _), .int (iI _)]) (c_X6_in _ _ _ _ _ _ (by first | assumption | omega) (by first | assumption | omega) (by first | assumption | omega)) 3 nf_X6_in.2 wL_X6_68 wS_X6_in wIn_X6 wC_X6_in rfl rfl (by decide) dX6_figures_110 (Nat.le_of_ble_eq_true rfl) ⟨Nat.le_of_ble_eq_true rfl, Nat.le_of_ble_eq_true rfl⟩ (fun x110 u110 h110 => ?_)
            refine j_perm (pr_2 _ _) ?_
            have q110 := ite01 h110
            refine j_if_ne (tgt := 122) C dX6_figures_113 (by decide) (by omega) (by omega) (fun c113 => ?_) (fun c113 => ?_)
            · exact L122 _ (by rw [if_neg (by omega), if_neg (by omega)] at hE; exact ⟨hF.1, Or.inl ⟨hE1.2.2.2, hE, hE1.2.2.1.symm, by omega, by omega, by omega, by omega⟩⟩)
            · exact L116 (by omega)
      refine j_aload_n C dX6_figures_11 rfl ?_
      refine j_get C 0 0 22 rfl rfl rfl wU_X6 (by decide) wF_X6_213 rfl dX6_figures_12 ?_
      refine j_iconst C dX6_figures_15 ?_
      refine j_icmp_ne (tgt := 87) C dX6_figures_16 (by decide) (by omega) (by omega) (by omega) (by omega) (fun c16 => ?_) (fun c16 => ?_)
      · exact L87 (by omega)
      · refine j_aload_n C dX6_figures_19 rfl ?_
        refine j_perm (pm_2_0_1 _ _) ?_
        refine j_callVi C (As := []) (c_X6_look _ _ _ _ _ _ (by rw [e1]; exact hb) (by rw [e1]; exact h28)) 0 nf_X6_look (jb := 0) rfl rfl wL_X6_216 wI_X6_look wSe_X6_X6_look wIn_X6 wC_X6_look rfl rfl (by decide) dX6_figures_20 (Nat.le_of_ble_eq_true rfl) ⟨Nat.le_of_ble_eq_true rfl, Nat.le_of_ble_eq_true rfl⟩ (fun x20 u20 h20 => ?_)
        refine j_perm (pr_2_0_1 _ _) ?_
        rw [e1] at h20
        have hpb := pk_bd hb (G2 8)
        refine j_bipush C dX6_figures_23 (by decide) ?_
        refine j_bipush C dX6_figures_25 (by decide) ?_
        refine j_perm (pm_2 _ _) ?_
        refine j_callSi C (As := [.int (iI _), .int (iI _), .int (iI _)]) (c_X6_in _ _ _ _ _ _ (by first | assumption | omega) (by first | assumption | omega) (by first | assumption | omega)) 3 nf_X6_in.2 wL_X6_68 wS_X6_in wIn_X6 wC_X6_in rfl rfl (by decide) dX6_figures_27 (Nat.le_of_ble_eq_true rfl) ⟨Nat.le_of_ble_eq_true rfl, Nat.le_of_ble_eq_true rfl⟩ (fun x27 u27 h27 => ?_)
        refine j_perm (pr_2 _ _) ?_
        have q27 := ite01 h27
        refine j_if_eq (tgt := 87) C dX6_figures_30 (by decide) (by omega) (by omega) (fun c30 => ?_) (fun c30 => ?_)
        · exact L87 (by omega)
        · have hdg : 48 ≤ pk t (G 1) (G2 8) ∧ pk t (G 1) (G2 8) ≤ 57 := by omega
          have hin := pk_inn (show pk t (G 1) (G2 8) ≠ -1 by omega)
          have hcc : G2 8 = G 8 + c ∧ (0 ≤ c ∧ c ≤ d) := by rcases hF.2.2 with z | z; (have := z.2.2.2.1; exact ⟨z.2.2.1, by omega⟩); (exact absurd (by omega : G2 9 = -1) z.1)
          refine j_aload_n C dX6_figures_33 rfl ?_
          refine j_get C 0 0 21 rfl rfl rfl wU_X6 (by decide) wF_X6_210 rfl dX6_figures_34 ?_
          refine j_iload C dX6_figures_37 rfl ?_
          refine j_isub C dX6_figures_39 ?_
          refine j_iload_n C dX6_figures_40 rfl ?_
          refine j_icmp_ne (tgt := 55) C dX6_figures_41 (by decide) (by omega) (by omega) (by omega) (by omega) (fun c41 => ?_) (fun c41 => ?_)
          · refine j_aload_n C dX6_figures_55 rfl ?_
            refine j_bipush C dX6_figures_56 (by decide) ?_
            refine j_aload_n C dX6_figures_58 rfl ?_
            refine j_get C 0 0 23 rfl rfl rfl wU_X6 (by decide) wF_X6_222 rfl dX6_figures_59 ?_
            refine j_imul C dX6_figures_62 ?_
            refine j_aload_n C dX6_figures_63 rfl ?_
            refine j_perm (pm_2_0_1 _ _) ?_
            refine j_callVi C (As := []) (c_X6_look _ _ _ _ _ _ (by rw [e1]; exact hb) (by rw [e1]; exact h28)) 0 nf_X6_look (jb := 0) rfl rfl wL_X6_216 wI_X6_look wSe_X6_X6_look wIn_X6 wC_X6_look rfl rfl (by decide) dX6_figures_64 (Nat.le_of_ble_eq_true rfl) ⟨Nat.le_of_ble_eq_true rfl, Nat.le_of_ble_eq_true rfl⟩ (fun x64 u64 h64 => ?_)
            refine j_perm (pr_2_0_1 _ _) ?_
            rw [e1] at h64
            subst h64
            refine j_iadd C dX6_figures_67 ?_
            refine j_bipush C dX6_figures_68 (by decide) ?_
            refine j_isub C dX6_figures_70 ?_
            refine j_put_p0 C 0 23 rfl mO_put10 rfl wU_X6 tyX6_ok nmX6 (by decide) wF_X6_222 rfl rfl rfl (Nat.le_of_ble_eq_true rfl) dX6_figures_71 ?_
            refine j_aload_n C dX6_figures_74 rfl ?_
            refine j_dup C dX6_figures_75 rfl ?_
            refine j_get C 0 0 21 rfl rfl rfl wU_X6 (by decide) wF_X6_210 rfl dX6_figures_76 ?_
            refine j_iconst C dX6_figures_79 ?_
            refine j_iadd C dX6_figures_80 ?_
            refine j_put_p0 C 0 21 rfl mO_put8 rfl wU_X6 tyX6_ok nmX6 (by decide) wF_X6_210 rfl rfl rfl (Nat.le_of_ble_eq_true rfl) dX6_figures_81 ?_
            refine j_goto (tgt := 11) C dX6_figures_84 (by decide) ?_
            exact ih11 _ (c + 1) (m - 1) (by have h9s := FGr_s hF (by omega) hdg (by omega) (by omega) (by omega); have e8 : st G2 10 (10 * G2 10 + pk t (G 1) (G2 8) - 48) 8 = G2 8 := st_n (by omega); rw [e8]; exact h9s) (by rw [st_n (by omega), st_n (by omega)]; exact h29) (by intro _; have := hm (by omega); omega) (by have := hm (by omega); omega)
          · refine j_aload_n C dX6_figures_44 rfl ?_
            refine j_aload_n C dX6_figures_45 rfl ?_
            refine j_get C 0 0 21 rfl rfl rfl wU_X6 (by decide) wF_X6_210 rfl dX6_figures_46 ?_
            refine j_perm (pm_2_0 _ _) ?_
            refine j_callVv C (As := [.int (iI _)]) (c_X6_fails _ _ _ _ _ _ (by exact h29)) 1 nf_X6_fails (jb := 0) rfl rfl wL_X6_219 wI_X6_fails wSe_X6_X6_fails wIn_X6 wC_X6_fails rfl rfl (by decide) dX6_figures_49 (Nat.le_of_ble_eq_true rfl) ⟨Nat.le_of_ble_eq_true rfl, Nat.le_of_ble_eq_true rfl⟩ (fun u49 h49 => ?_)
            refine j_perm (pr_2_0 _ _) ?_
            refine j_goto (tgt := 11) C dX6_figures_52 (by decide) ?_
            exact ih11 _ (c) (m - 1) (by exact FGr_x hF (by omega) hdg (by omega)) (by rw [st_s]; split <;> omega) (by intro q; rw [st_s, if_pos (by omega)] at q; omega) (by have := hm (by omega); omega)
  exact L11 _ _ (0) (d.toNat + 1) (by refine ⟨PKr_st (PKr_r G) (by omega), by rw [st_n (by omega)]; exact h8, ?_⟩; rw [st_n (by omega), st_n (by omega), st_s, show d.toNat - (0 : Int).toNat = d.toNat by rw [show (0 : Int).toNat = 0 from rfl]; omega, show G 8 + 0 = G 8 by omega]; by_cases z : G 9 = -1; (left; exact ⟨z, z, rfl, by omega, by omega, rfl, by omega, by omega⟩); (right; exact ⟨z, Or.inl ⟨z, rfl, rfl⟩⟩)) (by rw [st_n (by omega)]; exact h9) (by intro _; omega) (Nat.lt_succ_self _)
