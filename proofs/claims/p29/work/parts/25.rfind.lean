/-! the rings: find, room, saving, best, releases -/
theorem foldl_drop {d : Int → Int} {l : List Int} {m : Int} {k : Nat} (hk : k < l.length) : (l.drop k).foldl (fun m x => min m (d x)) m = (l.drop (k + 1)).foldl (fun m x => min m (d x)) (min m (d (l.getD k (-1)))) := by
  rw [List.drop_eq_getElem_cons hk, List.foldl_cons, List.getD_eq_getElem?_getD, List.getElem?_eq_getElem hk]
  rfl
theorem sumL_drop {f : Int → Int} {l : List Int} {k : Nat} (hk : k < l.length) : sumL f (l.drop k) = f (l.getD k (-1)) + sumL f (l.drop (k + 1)) := by
  rw [List.drop_eq_getElem_cons hk, sumL, List.getD_eq_getElem?_getD, List.getElem?_eq_getElem hk]
  rfl
theorem drop_out {α : Type} {l : List α} {k : Nat} (hk : l.length ≤ k) : l.drop k = [] := List.drop_eq_nil_of_le hk
theorem getD_mem {l : List Int} {k : Nat} {z : Int} (hk : k < l.length) : l.getD k z ∈ l := by
  rw [List.getD_eq_getElem?_getD, List.getElem?_eq_getElem hk]
  exact List.getElem_mem hk
theorem relK_o : ∀ (l : List Int) (S : Int → Int) (left : Int), (∀ k ∈ l, 0 ≤ k) → (relK S l left 0 = S 0 ∧ relK S l left 1 = S 1 ∧ relK S l left 2 = S 2 ∧ relK S l left 4 = S 4) ∧ ∀ k : Int, 0 ≤ k → fr (relK S l left) k = fr S k ∧ tO (relK S l left) k = tO S k ∧ ra (relK S l left) k = ra S k ∧ di (relK S l left) k = di S k ∧ fi (relK S l left) k = fi S k ∧ pa (relK S l left) k = pa S k
  | [], S, _, _ => ⟨⟨rfl, rfl, rfl, rfl⟩, fun _ _ => ⟨rfl, rfl, rfl, rfl, rfl, rfl⟩⟩
  | k :: t, S, left, h => by
    have hk := h k List.mem_cons_self
    have ih := relK_o t (relP S k (min left (am S k))) (left - min left (am S k)) (fun x hx => h x (List.mem_cons_of_mem _ hx))
    have e : ∀ i : Int, i ≠ 3 → i ≠ 7 + 8 * k → i ≠ 12 + 8 * k → relP S k (min left (am S k)) i = S i := fun i a b c => relP_o (fun _ => ⟨b, c, a⟩)
    rw [relK]
    refine ⟨⟨ih.1.1.trans (e 0 (by omega) (by omega) (by omega)), ih.1.2.1.trans (e 1 (by omega) (by omega) (by omega)), ih.1.2.2.1.trans (e 2 (by omega) (by omega) (by omega)), ih.1.2.2.2.trans (e 4 (by omega) (by omega) (by omega))⟩, fun j hj => ?_⟩
    have a := ih.2 j hj
    exact ⟨a.1.trans (e _ (by omega) (by omega) (by omega)), a.2.1.trans (e _ (by omega) (by omega) (by omega)), a.2.2.1.trans (e _ (by omega) (by omega) (by omega)), a.2.2.2.1.trans (e _ (by omega) (by omega) (by omega)), a.2.2.2.2.1.trans (e _ (by omega) (by omega) (by omega)), a.2.2.2.2.2.trans (e _ (by omega) (by omega) (by omega))⟩
theorem relK_am : ∀ (l : List Int) (S : Int → Int) (left j : Int), (∀ k ∈ l, 0 ≤ k) → 0 ≤ j → j ∉ l → am (relK S l left) j = am S j
  | [], _, _, _, _, _, _ => rfl
  | k :: t, S, left, j, h, h0, hj => by
    rw [relK, relK_am t _ _ j (fun x hx => h x (List.mem_cons_of_mem _ hx)) h0 (fun q => hj (List.mem_cons_of_mem _ q)), relP_am _ _ (h k List.mem_cons_self) h0, if_neg (fun e => hj (by rw [e]; exact List.mem_cons_self))]
theorem relK_bd : ∀ (l : List Int) (S : Int → Int) (left : Int), 0 ≤ left → (∀ k ∈ l, 0 ≤ k ∧ 0 ≤ am S k) → ∀ j : Int, 0 ≤ j → 0 ≤ am S j → 0 ≤ am (relK S l left) j ∧ am (relK S l left) j ≤ am S j
  | [], _, _, _, _, _, _, h => ⟨h, Int.le_refl _⟩
  | k :: t, S, left, h0, hl, j, hj, h => by
    have hk := hl k List.mem_cons_self
    have e : ∀ i, 0 ≤ i → am (relP S k (min left (am S k))) i = if i = k then am S k - min left (am S k) else am S i := fun i hi => relP_am _ i hk.1 hi
    have ih := relK_bd t (relP S k (min left (am S k))) (left - min left (am S k)) (by omega) (fun i hi => by
      have := hl i (List.mem_cons_of_mem _ hi)
      refine ⟨this.1, ?_⟩
      rw [e i this.1]
      split <;> omega) j hj (by rw [e j hj]; split <;> omega)
    rw [relK]
    rw [e j hj] at ih
    split at ih
    · rename_i q
      subst q
      omega
    · omega
theorem relK_Inv {S : Int → Int} {q left : Int} (hI : Inv S) (h0 : 0 ≤ left) : Inv (relK S (chR S q 9) left) := by
  have hm : ∀ k ∈ chR S q 9, 0 ≤ k ∧ 0 ≤ am S k := fun k hk => by
    have := chR_mem hk hI.2.1.1
    have := this.1.2.1
    omega
  have ho := relK_o (chR S q 9) S left (fun k hk => (hm k hk).1)
  refine Inv_am hI ⟨ho.1.1, ho.1.2.1⟩ (fun k hk => ⟨(ho.2 k hk).1, (ho.2 k hk).2.1, (ho.2 k hk).2.2.1, (ho.2 k hk).2.2.2.1⟩) (fun j hj hj1 => relK_bd _ S left h0 hm j hj ?_)
  exact (hI.2.2 j hj hj1).2.2.2.1.1
theorem relK_ch {S : Int → Int} {q q' left : Int} (hI : Inv S) (hq : q' ≠ q) : chR (relK S (chR S q 9) left) q' 9 = chR S q' 9 := by
  have hm : ∀ k ∈ chR S q 9, 0 ≤ k := fun k hk => (chR_mem hk hI.2.1.1).2.1
  have ho := relK_o (chR S q 9) S left hm
  refine chR_congr ho.1.2.1 hI.2.1.1 (fun k h0 h1 => ⟨(ho.2 k h0).1, (ho.2 k h0).2.1, (ho.2 k h0).2.2.1, (ho.2 k h0).2.2.2.1, fun e => relK_am _ S left k hm h0 (fun hk => hq ?_)⟩) 9
  rw [← e, (chR_mem hk hI.2.1.1).1.2.2]
theorem relK_Inz {S : Int → Int} {l : List Int} {left : Int} (hz : Inz S) (h : ∀ k ∈ l, 0 ≤ k) : Inz (relK S l left) := fun k h0 h1 => by
  rw [((relK_o l S left h).2 k h0).2.2.2.1]
  exact hz k h0 h1
theorem RS_get {S : Int → Int} {i : Int} (h0 : 0 ≤ i) (h1 : i < (((RS S).length : Nat) : Int)) : PR (dQ S) ((RS S).getD i.toNat []) := RG_get h0 h1
theorem RG_start (d : Int → Int) : RG d = candF (fun _ => true) (fun p => E d 7 [p]) 7 := rfl
theorem seven_0 : ((7 : Int) - 0).toNat = 7 := rfl
theorem rmC_start {d : Int → Int} {l : List Int} (h : l ≠ []) : (l.drop (1 : Int).toNat).foldl (fun m x => min m (d x)) (d (l.getD 0 (-1))) = rmC d l := by
  match l, h with
  | q :: t, _ => rfl
theorem Rws_len {f : Int → Int} {z : Int} {L : List (List Int)} (h : Rws f z L) : z = L.length := h.1
theorem pm_7 (B0 B1 B2 B3 B4 B5 B6 : va_W) : [B0, B1, B2, B3, B4, B5, B6].Perm ([] ++ [B0, B1, B2, B3, B4, B5, B6]) := List.Perm.refl _
theorem pr_7 (B0 B1 B2 B3 B4 B5 B6 : va_W) : ([] ++ [B0, B1, B2, B3, B4, B5, B6]).Perm [B0, B1, B2, B3, B4, B5, B6] := (pm_7 B0 B1 B2 B3 B4 B5 B6).symm
theorem pm_7_0_1_2_3_4_5 (B0 B1 B2 B3 B4 B5 B6 : va_W) : [B0, B1, B2, B3, B4, B5, B6].Perm ([B0, B1, B2, B3, B4, B5] ++ [B6]) := List.Perm.trans (List.Perm.refl _) (List.Perm.trans (List.Perm.cons _ (List.Perm.refl _)) (List.Perm.trans (List.Perm.cons _ (List.Perm.cons _ (List.Perm.refl _))) (List.Perm.trans (List.Perm.cons _ (List.Perm.cons _ (List.Perm.cons _ (List.Perm.refl _)))) (List.Perm.trans (List.Perm.cons _ (List.Perm.cons _ (List.Perm.cons _ (List.Perm.cons _ (List.Perm.refl _))))) (List.Perm.cons _ (List.Perm.cons _ (List.Perm.cons _ (List.Perm.cons _ (List.Perm.cons _ (List.Perm.refl _))))))))))
theorem pr_7_0_1_2_3_4_5 (B0 B1 B2 B3 B4 B5 B6 : va_W) : ([B0, B1, B2, B3, B4, B5] ++ [B6]).Perm [B0, B1, B2, B3, B4, B5, B6] := (pm_7_0_1_2_3_4_5 B0 B1 B2 B3 B4 B5 B6).symm
theorem pm_7_1_2_3_4_6 (B0 B1 B2 B3 B4 B5 B6 : va_W) : [B0, B1, B2, B3, B4, B5, B6].Perm ([B1, B2, B3, B4, B6] ++ [B0, B5]) := List.Perm.trans (List.perm_middle (l₁ := [B0]) (a := B1) (l₂ := [B2, B3, B4, B5, B6])) (List.Perm.trans (List.Perm.cons _ (List.perm_middle (l₁ := [B0]) (a := B2) (l₂ := [B3, B4, B5, B6]))) (List.Perm.trans (List.Perm.cons _ (List.Perm.cons _ (List.perm_middle (l₁ := [B0]) (a := B3) (l₂ := [B4, B5, B6])))) (List.Perm.trans (List.Perm.cons _ (List.Perm.cons _ (List.Perm.cons _ (List.perm_middle (l₁ := [B0]) (a := B4) (l₂ := [B5, B6]))))) (List.Perm.cons _ (List.Perm.cons _ (List.Perm.cons _ (List.Perm.cons _ (List.perm_middle (l₁ := [B0, B5]) (a := B6) (l₂ := [])))))))))
theorem pr_7_1_2_3_4_6 (B0 B1 B2 B3 B4 B5 B6 : va_W) : ([B1, B2, B3, B4, B6] ++ [B0, B5]).Perm [B0, B1, B2, B3, B4, B5, B6] := (pm_7_1_2_3_4_6 B0 B1 B2 B3 B4 B5 B6).symm
set_option maxHeartbeats 4000000 in
set_option maxRecDepth 100000 in
theorem c_X4_find (l : Launch) (D : va_G) (cA : Nat → ClassId) (r d b : Nat → Nat) (z : Int) (X F Nx f S : Int → Int) (hI : Inv S) : MV (U := (Int → Int) × (Int → Int) × (Int → Int) × (Int → Int)) l yX4_find cX4_find 3 none (rmN 20 0 0) D cA [.ref (r 0), .ref (b 0)] [rgO r (d 0) z, dbO d, [(d 1, aJ (cA 0) 49 X)], [(d 2, aJ (cA 0) 49 F)], [(d 3, aJ (cA 0) 40 Nx)], [(r 1, aJ (cA 0) 2365 f)], bk cA b S] (fun u => Fnd S u.1 u.2.1 u.2.2.1 u.2.2.2 ((RS S).length : Int)) (fun u => [rgO r (d 0) ((RS S).length : Int), dbO d, [(d 1, aJ (cA 0) 49 u.1)], [(d 2, aJ (cA 0) 49 u.2.1)], [(d 3, aJ (cA 0) 40 u.2.2.1)], [(r 1, aJ (cA 0) 2365 u.2.2.2)], bk cA b S]) := by
  refine m_startV pn_X4 rfl (List.forall_mem_cons.mpr ⟨rfl, List.forall_mem_cons.mpr ⟨rfl, fun _ h => absurd h List.not_mem_nil⟩⟩) (Nat.le_of_ble_eq_true rfl) ?_
  intro K C e1 e2 e3 hin hR
  subst e1 e2 e3
  show J K 0 0 [rgO r (d 0) z, dbO d, [(d 1, aJ ((kC K) 0) 49 X)], [(d 2, aJ ((kC K) 0) 49 F)], [(d 3, aJ ((kC K) 0) 40 Nx)], [(r 1, aJ ((kC K) 0) 2365 f)], bk (kC K) b S] [some (.ref (r 0)), some (.ref (b 0)), none] 0 []
  refine j_aload_n C dX4_find_0 rfl ?_
  refine j_get C 0 0 0 rfl rfl rfl wU_X4 (by decide) wF_X4_14 rfl dX4_find_1 ?_
  refine j_aload_n C dX4_find_4 rfl ?_
  refine j_perm (pm_7_1_2_3_4_6 _ _ _ _ _ _ _) ?_
  refine j_callVv C (As := [.ref _]) (c_X1_read _ _ _ _ _ _ _ _ _ (by first | assumption | omega)) 1 nf_X1_read (jb := 0) rfl rfl wL_X4_25 wI_X1_read wSe_X1_X1_read wIn_X1 wC_X1_read rfl rfl (by decide) dX4_find_5 (Nat.le_of_ble_eq_true rfl) ⟨Nat.le_of_ble_eq_true rfl, Nat.le_of_ble_eq_true rfl⟩ (fun u5 h5 => ?_)
  refine j_perm (pr_7_1_2_3_4_6 _ _ _ _ _ _ _) ?_
  obtain h5 := h5
  obtain ⟨X1, F1, N1⟩ := u5
  dsimp only at h5 ⊢
  have hXb : ∀ q : Int, 0 ≤ q → q < 49 → 0 ≤ X1 q ∧ X1 q ≤ 40000 := fun q h0 h1 => by rw [Db_sum hI h5 h0 h1]; exact dQ_bd hI q
  have hRX : RG X1 = RS S := RG_congr (fun q h0 h1 => Db_sum hI h5 h0 h1)
  have hlen := RS_len hI
  refine j_aload_n C dX4_find_8 rfl ?_
  refine j_iconst C dX4_find_9 ?_
  refine j_put_p0 C 0 3 rfl rgO_put rfl wU_X4 tyX4_ok nmX4 (by decide) wF_X4_29 rfl rfl rfl (Nat.le_of_ble_eq_true rfl) dX4_find_10 ?_
  refine j_iconst C dX4_find_13 ?_
  refine j_istn_2 C dX4_find_14 rfl ?_
  have L15 : ∀ (fuel : Nat) (i : Int) (f1 : Int → Int) (M : List (List Int)) (hi : 0 ≤ i ∧ i ≤ 7) (hR1 : Rws f1 ((M.length : Nat) : Int) M) (hM : M ++ candF (fun _ => true) (fun p => E X1 7 [p]) (7 - i).toNat = RG X1) (hf15 : (7 - i).toNat < fuel), J K 0 0 [rgO r (d 0) ((M.length : Nat) : Int), dbO d, [(d 1, aJ ((kC K) 0) 49 X1)], [(d 2, aJ ((kC K) 0) 49 F1)], [(d 3, aJ ((kC K) 0) 40 N1)], [(r 1, aJ ((kC K) 0) 2365 f1)], bk (kC K) b S] [some (.ref (r 0)), some (.ref (b 0)), some (.int (iI i))] 15 [] := by
    intro fuel
    induction fuel with
    | zero => intro i f1 M hi hR1 hM hf15; exact absurd hf15 (Nat.not_lt_zero _)
    | succ fuel ih15 =>
      intro i f1 M hi hR1 hM hf15
      refine j_iload_n C dX4_find_15 rfl ?_
      refine j_bipush C dX4_find_16 (by decide) ?_
      refine j_icmp_ge (tgt := 43) C dX4_find_18 (by decide) (by omega) (by omega) (by omega) (by omega) (fun c18 => ?_) (fun c18 => ?_)
      · have e : M = RS S := by rw [← hRX, ← hM, show (7 - i).toNat = 0 by omega]; exact (List.append_nil M).symm
        subst e
        refine hR (X1, F1, N1, f1) dX4_find_43 ?_ rfl (Nat.le_of_ble_eq_true rfl) (Nat.le_of_ble_eq_true rfl)
        exact ⟨h5, hR1⟩
      · refine j_aload_n C dX4_find_21 rfl ?_
        refine j_ldc C 2097151 (by decide) wN_X4_33 dX4_find_22 ?_
        refine j_iconst C dX4_find_24 ?_
        refine j_iload_n C dX4_find_25 rfl ?_
        refine j_perm (pm_7 _ _ _ _ _ _ _) ?_
        refine j_callSi C (As := [.int (iI _), .int (iI _), .int (iI _)]) (c_X4_rowWith _ _ _ _ _ _ (by omega) (by omega) (by omega)) 3 nf_X4_rowWith.2 wL_X4_34 wS_X4_rowWith wIn_X4 wC_X4_rowWith rfl rfl (by decide) dX4_find_26 (Nat.le_of_ble_eq_true rfl) ⟨Nat.le_of_ble_eq_true rfl, Nat.le_of_ble_eq_true rfl⟩ (fun x26 u26 h26 => ?_)
        refine j_perm (pr_7 _ _ _ _ _ _ _) ?_
        refine j_iconst C dX4_find_29 ?_
        refine j_iload_n C dX4_find_30 rfl ?_
        refine j_ishl C dX4_find_31 (us_c hi.1 (by omega)) ?_
        refine j_iload_n C dX4_find_32 rfl ?_
        refine j_iconst C dX4_find_33 ?_
        refine j_perm (pm_7_0_1_2_3_4_5 _ _ _ _ _ _ _) ?_
        refine j_callSv C (As := [.ref _, .int (iI _), .int (iI _), .int (iI _), .int (iI _)]) (c_X4_extend 7 _ _ _ _ _ _ _ _ _ _ _ _ _ _ ([i]) (M) (by rfl) (by rfl) (by rfl) (by show ((2 ^ i.toNat : Nat) : Int) = ((0 ||| 2 ^ i.toNat : Nat) : Int); rw [Nat.zero_or]) (by rw [h26]; exact rep_snoc rep_nil (by decide) hi.1 (by omega)) (by exact PV_one hi.1 (by omega)) (by exact hR1) (by rw [← hRX, ← hM, candF_step hi.1 (by omega), if_pos rfl, ← List.append_assoc, List.length_append] at hlen; exact Nat.le_trans (Nat.le_add_right _ _) hlen) (by exact hXb)) 5 nf_X4_extend.2 wL_X4_38 wS_X4_extend wIn_X4 wC_X4_extend rfl rfl (by decide) dX4_find_34 (Nat.le_of_ble_eq_true rfl) ⟨Nat.le_of_ble_eq_true rfl, Nat.le_of_ble_eq_true rfl⟩ (fun u34 h34 => ?_)
        refine j_perm (pr_7_0_1_2_3_4_5 _ _ _ _ _ _ _) ?_
        refine j_iinc_2 C dX4_find_37 rfl ?_
        refine j_goto (tgt := 15) C dX4_find_40 (by decide) ?_
        exact ih15 _ _ (_) (by omega) (by exact h34) (by rw [← hM, candF_step hi.1 (by omega), if_pos rfl, List.append_assoc]) (by omega)
  exact L15 _ _ _ ([]) (by omega) (by exact ⟨rfl, fun i h0 h1 => absurd h1 (by show ¬ i < (0 : Int); omega)⟩) (by rw [List.nil_append, seven_0]; exact (RG_start X1).symm) (Nat.lt_succ_self _)
