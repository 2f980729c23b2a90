/-! the reference: releases, discharges -/
theorem rel_step {M T : Int → Int} {q r k left x : Int} (hk : 0 ≤ k) (hk1 : k < M 1) (ha : ra M k = r → am T k = am M k) (ham : 0 ≤ am M k) (h0 : 0 ≤ left) (c : List Int) (hx : x = if fr M k * 7 + tO M k = q ∧ ra M k = r ∧ di M k = 0 then min left (am M k) else 0) : relC (rel1 T k x) (lsN (cnd M q r) (M 1) (M 1 - (k + 1)).toNat ++ c) (left - x) = relC T (lsN (cnd M q r) (M 1) (M 1 - k).toNat ++ c) left := by
  rw [show (M 1 - k).toNat = (M 1 - (k + 1)).toNat + 1 by omega, lsN, show M 1 - ((((M 1 - (k + 1)).toNat : Nat) : Int) + 1) = k by omega]
  by_cases h : cnd M q r k = true
  · have h1 := of_decide_eq_true h
    rw [if_pos h, List.cons_append, relC, ha h1.2.2.2, hx, if_pos ⟨h1.2.2.1, h1.2.2.2, h1.1⟩]
  · have e : x = 0 := by
      rw [hx]
      split
      · rename_i z
        have : ¬ 0 < am M k := fun w => h (decide_eq_true ⟨z.2.2, w, z.1, z.2.1⟩)
        omega
      · rfl
    rw [if_neg h, e, rel1_0, show left - 0 = left by omega]
theorem ls_end {M : Int → Int} {q : Int} {r : Int} (hr : 1 ≤ r) : lsN (cnd M q r) (M 1) (M 1 - 0).toNat ++ chR M q (r - 1).toNat = chR M q r.toNat := by
  rw [show r.toNat = (r - 1).toNat + 1 by omega, chR, show (((r - 1).toNat : Nat) : Int) + 1 = r by omega, show M 1 - 0 = M 1 by omega]
/-- releases from one debt after the other -/
def rlC (S : Int → Int) : List Int → Int → (Int → Int)
  | [], _ => S
  | q :: t, amt => rlC (relC S (chR S q 9) amt) t amt
theorem rlC_app : ∀ (l1 l2 : List Int) (S : Int → Int) (amt : Int), rlC S (l1 ++ l2) amt = rlC (rlC S l1 amt) l2 amt
  | [], _, _, _ => rfl
  | q :: t, l2, S, amt => by
    rw [List.cons_append, rlC, rlC, rlC_app t l2]
theorem rlC_tk {S : Int → Int} {l : List Int} {k : Nat} (hk : k < l.length) (amt : Int) : rlC S (l.take (k + 1)) amt = relC (rlC S (l.take k) amt) (chR (rlC S (l.take k) amt) (l.getD k 0) 9) amt := by
  rw [List.take_succ, rlC_app, List.getD_eq_getElem?_getD, List.getElem?_eq_getElem hk]
  rfl
theorem relC_Inv {S : Int → Int} {q left : Int} (hI : Inv S) (h0 : 0 ≤ left) : Inv (relC S (chR S q 9) left) := by
  have hm : ∀ k ∈ chR S q 9, 0 ≤ k ∧ 0 ≤ am S k := fun k hk => by
    have := chR_mem hk hI.2.1.1
    have := this.1.2.1
    omega
  have hL := relC_Lv (chR S q 9) S left (fun k hk => (hm k hk).1)
  refine Inv_am hI ⟨hL.1 0 (by omega) (by omega), hL.1 1 (by omega) (by omega)⟩ (fun k hk => ⟨(hL.2 k hk).1, (hL.2 k hk).2.1, (hL.2 k hk).2.2.1, (hL.2 k hk).2.2.2.1⟩) (fun j hj hj1 => ?_)
  exact relC_bd _ S left h0 j (fun k hk => (hm k hk).2) (hI.2.2 j hj hj1).2.2.2.1.1
theorem rlC_Inv : ∀ (l : List Int) (S : Int → Int) (amt : Int), Inv S → 0 ≤ amt → Inv (rlC S l amt)
  | [], _, _, h, _ => h
  | q :: t, S, amt, h, h0 => rlC_Inv t _ amt (relC_Inv h h0) h0
theorem rlC_Lv : ∀ (l : List Int) (S : Int → Int) (amt : Int), Inv S → 0 ≤ amt → Lv S (rlC S l amt)
  | [], S, _, _, _ => Lv_rfl S
  | q :: t, S, amt, h, h0 => Lv_tr (relC_Lv (chR S q 9) S amt (fun k hk => (chR_mem hk h.2.1.1).2.1)) (rlC_Lv t _ amt (relC_Inv h h0) h0)
theorem chR_3 {S : Int → Int} {q y : Int} (hI : Inv S) : chR (st S 3 y) q 9 = chR S q 9 := chR_congr (st_n (by omega)) hI.2.1.1 (fun k h0 _ => ⟨st_n (by omega), st_n (by omega), st_n (by omega), st_n (by omega), fun _ => st_n (by omega)⟩) 9
theorem Inv_3 {S : Int → Int} {y : Int} (hI : Inv S) : Inv (st S 3 y) := Inv_hi hI ⟨st_n (by omega), st_n (by omega)⟩ (fun j hj => st_n (by omega))
theorem rlC_3 : ∀ (l : List Int) (S : Int → Int) (amt y : Int), Inv S → 0 ≤ amt → rlC (st S 3 y) l amt = st (rlC S l amt) 3 y
  | [], _, _, _, _, _ => rfl
  | q :: t, S, amt, y, h, h0 => by
    rw [rlC, rlC, chR_3 h, relC_3 _ _ _ _ (fun k hk => (chR_mem hk h.2.1.1).2.1), rlC_3 t _ amt y (relC_Inv h h0) h0]
theorem ch_sum {S : Int → Int} (hI : Inv S) (q : Int) : sumL (am S) (chR S q 9) = dQ S q := chR_sum hI q
theorem dQ_3 {S : Int → Int} {y q : Int} : dQ (st S 3 y) q = dQ S q := by
  unfold dQ
  rw [show st S 3 y 1 = S 1 from st_n (by omega)]
  refine sumZ_congr (fun k a _ => ?_)
  rw [show di (st S 3 y) k = di S k from st_n (by omega), show fr (st S 3 y) k = fr S k from st_n (by omega), show tO (st S 3 y) k = tO S k from st_n (by omega), show am (st S 3 y) k = am S k from st_n (by omega)]
theorem relC_d {S : Int → Int} (hI : Inv S) (q q' : Int) {amt : Int} (h0 : 0 ≤ amt) : dQ (relC S (chR S q 9) amt) q' = if q' = q then dQ S q - min amt (dQ S q) else dQ S q' := by
  have hm : ∀ k ∈ chR S q 9, ow S q k ∧ 0 ≤ k ∧ k < S 1 := fun k hk => by
    have := chR_mem hk hI.2.1.1
    exact ⟨this.1, this.2.1, this.2.2.1⟩
  by_cases c : q' = q
  · rw [if_pos c, c, relC_dQ _ _ _ _ (chR_nd hI.2.1.1 9) h0 hm, ch_sum hI]
  · rw [if_neg c]
    exact relC_dQ' _ _ q q' _ (fun e => c e.symm) (fun k hk => ⟨(hm k hk).1, (hm k hk).2.1⟩)
theorem disK_rl : ∀ (l : List Int) (S : Int → Int) (amt : Int), Inv S → 0 ≤ amt → l.Nodup → (∀ q ∈ l, amt ≤ dQ S q) → disK S l amt = st (rlC S l amt) 3 (S 3 + amt * l.length)
  | [], S, amt, _, _, _, _ => by
    rw [disK, rlC, List.length_nil, show S 3 + amt * ((0 : Nat) : Int) = S 3 by simp, st_self]
  | q :: t, S, amt, hI, h0, hn, hd => by
    have hnd := List.nodup_cons.mp hn
    have hm : ∀ k ∈ chR S q 9, 0 ≤ k ∧ 0 ≤ am S k := fun k hk => by
      have := chR_mem hk hI.2.1.1
      have := this.1.2.1
      omega
    have hq := hd q List.mem_cons_self
    have hI2 := relC_Inv (q := q) hI h0
    rw [disK, relK_eq _ _ _ (chR_nd hI.2.1.1 9) h0 hm, ch_sum hI, show min amt (dQ S q) = amt by omega, disK_rl t _ amt (Inv_3 hI2) h0 hnd.2 (fun q' hq' => by
      rw [dQ_3, relC_d hI q q' h0, if_neg (fun (e : q' = q) => hnd.1 (e ▸ hq'))]
      exact hd q' (List.mem_cons_of_mem _ hq')), rlC_3 t _ amt _ hI2 h0, st_st, st_s, rlC, List.length_cons]
    congr 1
    rw [show ((t.length + 1 : Nat) : Int) = (t.length : Int) + 1 by omega, Int.mul_add, Int.mul_one]
    omega
theorem rlC_d : ∀ (l : List Int) (S : Int → Int) (amt q : Int), Inv S → 0 ≤ amt → l.Nodup → (∀ q ∈ l, amt ≤ dQ S q) → dQ (rlC S l amt) q = if q ∈ l then dQ S q - amt else dQ S q
  | [], _, _, _, _, _, _, _ => rfl
  | q0 :: t, S, amt, q, hI, h0, hn, hd => by
    have hnd := List.nodup_cons.mp hn
    have hq0 := hd q0 List.mem_cons_self
    rw [rlC, rlC_d t _ amt q (relC_Inv hI h0) h0 hnd.2 (fun q' hq' => by
      rw [relC_d hI q0 q' h0, if_neg (fun (e : q' = q0) => hnd.1 (e ▸ hq'))]
      exact hd q' (List.mem_cons_of_mem _ hq')), relC_d hI q0 q h0]
    by_cases c : q = q0
    · subst c
      rw [if_neg hnd.1, if_pos rfl, if_pos List.mem_cons_self]
      omega
    · rw [if_neg c]
      by_cases c2 : q ∈ t
      · rw [if_pos c2, if_pos (List.mem_cons_of_mem _ c2)]
      · rw [if_neg c2, if_neg (fun z => by rcases List.mem_cons.mp z with z | z; exact c z; exact c2 z)]
theorem disR_rl {S : Int → Int} {r : List Int} {amt : Int} (hI : Inv S) (hr : PV r) (h0 : 0 ≤ amt) (hd : ∀ q ∈ prs r, amt ≤ dQ S q) : st (st (rlC S (prs r) amt) 3 (rlC S (prs r) amt 3 + amt * r.length)) 4 (st (rlC S (prs r) amt) 3 (rlC S (prs r) amt 3 + amt * r.length) 4 + 1) = disR S r amt := by
  unfold disR
  rw [disK_rl _ _ _ hI h0 (prs_nd hr) hd, prs_len, (rlC_Lv (prs r) S amt hI h0).1 3 (by omega) (by omega)]
theorem disR_d {S : Int → Int} {r : List Int} {amt : Int} (hI : Inv S) (hr : PV r) (h0 : 0 ≤ amt) (hd : ∀ q ∈ prs r, amt ≤ dQ S q) (q : Int) : dQ (disR S r amt) q = if q ∈ prs r then dQ S q - amt else dQ S q := by
  rw [← rlC_d (prs r) S amt q hI h0 (prs_nd hr) hd, ← disR_rl hI hr h0 hd]
  unfold dQ
  rw [show st (st (rlC S (prs r) amt) 3 (rlC S (prs r) amt 3 + amt * r.length)) 4 (st (rlC S (prs r) amt) 3 (rlC S (prs r) amt 3 + amt * r.length) 4 + 1) 1 = rlC S (prs r) amt 1 from (st_n (by omega)).trans (st_n (by omega))]
  refine sumZ_congr (fun k a _ => ?_)
  have e : ∀ j : Int, 5 ≤ j → st (st (rlC S (prs r) amt) 3 (rlC S (prs r) amt 3 + amt * r.length)) 4 (st (rlC S (prs r) amt) 3 (rlC S (prs r) amt 3 + amt * r.length) 4 + 1) j = rlC S (prs r) amt j := fun j hj => (st_n (by omega)).trans (st_n (by omega))
  unfold di fr tO am
  rw [e _ (by omega), e _ (by omega), e _ (by omega), e _ (by omega)]
theorem pm_4_0_2_3 (B0 B1 B2 B3 : va_W) : [B0, B1, B2, B3].Perm ([B0, B2, B3] ++ [B1]) := List.Perm.trans (List.Perm.refl _) (List.Perm.trans (List.Perm.cons _ (List.perm_middle (l₁ := [B1]) (a := B2) (l₂ := [B3]))) (List.Perm.cons _ (List.Perm.cons _ (List.perm_middle (l₁ := [B1]) (a := B3) (l₂ := [])))))
theorem pr_4_0_2_3 (B0 B1 B2 B3 : va_W) : ([B0, B2, B3] ++ [B1]).Perm [B0, B1, B2, B3] := (pm_4_0_2_3 B0 B1 B2 B3).symm
theorem pm_4_1 (B0 B1 B2 B3 : va_W) : [B0, B1, B2, B3].Perm ([B1] ++ [B0, B2, B3]) := List.perm_middle (l₁ := [B0]) (a := B1) (l₂ := [B2, B3])
theorem pr_4_1 (B0 B1 B2 B3 : va_W) : ([B1] ++ [B0, B2, B3]).Perm [B0, B1, B2, B3] := (pm_4_1 B0 B1 B2 B3).symm
set_option maxHeartbeats 4000000 in
set_option maxRecDepth 100000 in
theorem c_X6_releases (l : Launch) (D : va_G) (cA : Nat → ClassId) (q1 : Nat) (M : Int → Int) (from0 to0 amt : Int) (hI : Inv M) (hfr : 0 ≤ from0 ∧ from0 < 7) (hto : 0 ≤ to0 ∧ to0 < 7) (ham : 0 ≤ amt ∧ amt ≤ 40000) : MV (U := Int → Int) l yX6_releases cX6_releases 9 none (rmN 2 0 0) D cA [.ref (q1), .int (iI from0), .int (iI to0), .int (iI amt)] [[(q1, aJ (cA 0) 325 M)]] (fun u => u = relC M (chR M (7 * from0 + to0) 9) amt) (fun u => [[(q1, aJ (cA 0) 325 u)]]) := by
  refine m_startV pn_X6 rfl (List.forall_mem_cons.mpr ⟨rfl, List.forall_mem_cons.mpr ⟨rfl, List.forall_mem_cons.mpr ⟨rfl, List.forall_mem_cons.mpr ⟨rfl, fun _ h => absurd h List.not_mem_nil⟩⟩⟩⟩) (Nat.le_of_ble_eq_true rfl) ?_
  intro K C e1 e2 e3 hin hR
  subst e1 e2 e3
  have hN := hI.2.1
  have hQ := hI.1
  show J K 0 0 [[(q1, aJ ((kC K) 0) 325 M)]] [some (.ref (q1)), some (.int (iI from0)), some (.int (iI to0)), some (.int (iI amt)), none, none, none, none, none] 0 []
  refine j_iload_n C dX6_releases_0 rfl ?_
  refine j_ist_4 C dX6_releases_1 rfl ?_
  refine j_bipush C dX6_releases_3 (by decide) ?_
  refine j_ist_5 C dX6_releases_5 rfl ?_
  have L7 : ∀ (fuel : Nat) (T : Int → Int) (left rt : Int) (hrt : 0 ≤ rt ∧ rt ≤ 9) (hle : 0 ≤ left ∧ left ≤ 40000) (hLv : Lv M T) (hT : relC T (chR M (7 * from0 + to0) rt.toNat) left = relC M (chR M (7 * from0 + to0) 9) amt) (hTa : ∀ j : Int, 0 ≤ j → j < M 1 → ra M j ≤ rt → am T j = am M j) (hf7 : rt.toNat < fuel), J K 0 0 [[(q1, aJ ((kC K) 0) 325 T)]] [some (.ref (q1)), some (.int (iI from0)), some (.int (iI to0)), some (.int (iI amt)), some (.int (iI left)), some (.int (iI rt)), none, none, none] 7 [] := by
    intro fuel
    induction fuel with
    | zero => intro T left rt hrt hle hLv hT hTa hf7; exact absurd hf7 (Nat.not_lt_zero _)
    | succ fuel ih7 =>
      intro T left rt hrt hle hLv hT hTa hf7
      have hT1 : T 1 = M 1 := hLv.1 1 (by omega) (by omega)
      refine j_iload C dX6_releases_7 rfl ?_
      refine j_if_le (tgt := 148) C dX6_releases_9 (by decide) (by omega) (by omega) (fun c9 => ?_) (fun c9 => ?_)
      · refine hR T dX6_releases_148 ?_ rfl (Nat.le_of_ble_eq_true rfl) (Nat.le_of_ble_eq_true rfl)
        show T = _
        rw [← hT, show rt = 0 by omega]
        rfl
      · refine j_iconst C dX6_releases_12 ?_
        refine j_ist_6 C dX6_releases_13 rfl ?_
        have L15 : ∀ (fuel : Nat) (T2 : Int → Int) (left2 k : Int) (hk : 0 ≤ k ∧ k ≤ M 1) (hle2 : 0 ≤ left2 ∧ left2 ≤ 40000) (hLv2 : Lv M T2) (hT2 : relC T2 (lsN (cnd M (7 * from0 + to0) rt) (M 1) (M 1 - k).toNat ++ chR M (7 * from0 + to0) (rt - 1).toNat) left2 = relC M (chR M (7 * from0 + to0) 9) amt) (hTa2 : ∀ j : Int, 0 ≤ j → j < M 1 → (ra M j < rt ∨ ra M j = rt ∧ k ≤ j) → am T2 j = am M j) (hf15 : (M 1 - k).toNat < fuel), J K 0 0 [[(q1, aJ ((kC K) 0) 325 T2)]] [some (.ref (q1)), some (.int (iI from0)), some (.int (iI to0)), some (.int (iI amt)), some (.int (iI left2)), some (.int (iI rt)), some (.int (iI k)), none, none] 15 [] := by
          intro fuel
          induction fuel with
          | zero => intro T2 left2 k hk hle2 hLv2 hT2 hTa2 hf15; exact absurd hf15 (Nat.not_lt_zero _)
          | succ fuel ih15 =>
            intro T2 left2 k hk hle2 hLv2 hT2 hTa2 hf15
            have hT21 : T2 1 = M 1 := hLv2.1 1 (by omega) (by omega)
            refine j_iload C dX6_releases_15 rfl ?_
            refine j_aload_n C dX6_releases_17 rfl ?_
            refine j_iconst C dX6_releases_18 ?_
            refine j_iald C 0 0 rfl rfl dX6_releases_19 (by decide) (by omega) (by omega) ?_
            refine j_icmp_ge (tgt := 142) C dX6_releases_20 (by decide) (by omega) (by omega) (by omega) (by omega) (fun c20 => ?_) (fun c20 => ?_)
            · refine j_iinc_5 C dX6_releases_142 rfl ?_
              refine j_goto (tgt := 7) C dX6_releases_145 (by decide) ?_
              exact j_lle (lv' := [_, _, _, _, _, _, none, none, none]) ⟨Or.inr rfl, ⟨Or.inr rfl, ⟨Or.inr rfl, ⟨Or.inr rfl, ⟨Or.inr rfl, ⟨Or.inr rfl, ⟨Or.inl rfl, ⟨Or.inl rfl, ⟨Or.inl rfl, trivial⟩⟩⟩⟩⟩⟩⟩⟩⟩ (ih7 _ _ _ (by omega) (by omega) (by exact hLv2) (by rw [← hT2, show M 1 - k = 0 by omega]; rw [show rt + -1 = rt - 1 by omega]; rfl) (by intro j a b c; exact hTa2 j a b (by omega)) (by omega))
            · have hIk := hI.2.2 k hk.1 (by omega)
              have e := cel (S := T2) k
              have eL := hLv2.2 k hk.1
              refine j_aload_n C dX6_releases_23 rfl ?_
              have L76 : ∀ (z : Int) (hz : z = if (fr M k = from0 ∧ tO M k = to0 ∧ ra M k = rt ∧ di M k = 0) then 1 else 0), J K 0 0 [[(q1, aJ ((kC K) 0) 325 T2)]] [some (.ref (q1)), some (.int (iI from0)), some (.int (iI to0)), some (.int (iI amt)), some (.int (iI left2)), some (.int (iI rt)), some (.int (iI k)), none, none] 76 [.int (iI z)] := by
                intro z hz
                have hzb : z = 0 ∨ z = 1 := by rw [hz]; split <;> omega
                refine j_ist_7 C dX6_releases_76 rfl ?_
                have L100 : ∀ (x : Int) (hx : x = if (fr M k = from0 ∧ tO M k = to0 ∧ ra M k = rt ∧ di M k = 0) then min left2 (am M k) else 0), J K 0 0 [[(q1, aJ ((kC K) 0) 325 T2)]] [some (.ref (q1)), some (.int (iI from0)), some (.int (iI to0)), some (.int (iI amt)), some (.int (iI left2)), some (.int (iI rt)), some (.int (iI k)), none, none] 100 [.int (iI x)] := by
                  intro x hx
                  have hxb : 0 ≤ x ∧ x ≤ left2 := by rw [hx]; split <;> omega
                  have hxz : ra M k < rt → x = 0 := fun q => by rw [hx, if_neg (by omega)]
                  have hxq : x = if fr M k * 7 + tO M k = 7 * from0 + to0 ∧ ra M k = rt ∧ di M k = 0 then min left2 (am M k) else 0 := by
                    rw [hx]
                    by_cases c : (fr M k = from0 ∧ tO M k = to0 ∧ ra M k = rt ∧ di M k = 0)
                    · rw [if_pos c, if_pos ⟨by omega, c.2.2⟩]
                    · rw [if_neg c, if_neg (by omega)]
                  refine j_ist_8 C dX6_releases_100 rfl ?_
                  refine j_iload C dX6_releases_102 rfl ?_
                  refine j_iload C dX6_releases_104 rfl ?_
                  refine j_isub C dX6_releases_106 ?_
                  refine j_ist_4 C dX6_releases_107 rfl ?_
                  refine j_aload_n C dX6_releases_109 rfl ?_
                  refine j_iload C dX6_releases_110 rfl ?_
                  refine j_iconst C dX6_releases_112 ?_
                  refine j_perm (pm_1 _) ?_
                  refine j_callSi C (As := [.int (iI _), .int (iI _)]) (c_X6_p _ _ _ _ _ ) 2 nf_X6_p.2 wL_X6_79 wS_X6_p wIn_X6 wC_X6_p rfl rfl (by decide) dX6_releases_113 (Nat.le_of_ble_eq_true rfl) ⟨Nat.le_of_ble_eq_true rfl, Nat.le_of_ble_eq_true rfl⟩ (fun x113 u113 h113 => ?_)
                  refine j_perm (pr_1 _) ?_
                  subst h113
                  refine j_dup2 C dX6_releases_116 rfl rfl ?_
                  refine j_iald C 0 0 rfl rfl dX6_releases_117 (by decide) (by omega) (by omega) ?_
                  refine j_iload C dX6_releases_118 rfl ?_
                  refine j_isub C dX6_releases_120 ?_
                  refine j_iast_p0 C 0 rfl ar1_ast dX6_releases_121 (by decide) (by omega) (by omega) ?_
                  refine j_aload_n C dX6_releases_122 rfl ?_
                  refine j_iload C dX6_releases_123 rfl ?_
                  refine j_bipush C dX6_releases_125 (by decide) ?_
                  refine j_perm (pm_1 _) ?_
                  refine j_callSi C (As := [.int (iI _), .int (iI _)]) (c_X6_p _ _ _ _ _ ) 2 nf_X6_p.2 wL_X6_79 wS_X6_p wIn_X6 wC_X6_p rfl rfl (by decide) dX6_releases_127 (Nat.le_of_ble_eq_true rfl) ⟨Nat.le_of_ble_eq_true rfl, Nat.le_of_ble_eq_true rfl⟩ (fun x127 u127 h127 => ?_)
                  refine j_perm (pr_1 _) ?_
                  subst h127
                  refine j_dup2 C dX6_releases_130 rfl rfl ?_
                  refine j_iald C 0 0 rfl rfl dX6_releases_131 (by decide) (by omega) (by omega) ?_
                  refine j_iload C dX6_releases_132 rfl ?_
                  refine j_iadd C dX6_releases_134 ?_
                  refine j_iast_p0 C 0 rfl ar1_ast dX6_releases_135 (by decide) (by omega) (by omega) ?_
                  have hT3 : st (st T2 (5 + 8 * k + 2) (T2 (5 + 8 * k + 2) - x)) (5 + 8 * k + 7) (st T2 (5 + 8 * k + 2) (T2 (5 + 8 * k + 2) - x) (5 + 8 * k + 7) + x) = rel1 T2 k x := by
                    unfold rel1 am re
                    rw [show 5 + 8 * k + 2 = 7 + 8 * k by omega, show 5 + 8 * k + 7 = 12 + 8 * k by omega, show st T2 (7 + 8 * k) (T2 (7 + 8 * k) - x) (12 + 8 * k) = T2 (12 + 8 * k) from st_n (by omega)]
                  refine j_iinc_6 C dX6_releases_136 rfl ?_
                  refine j_goto (tgt := 15) C dX6_releases_139 (by decide) ?_
                  exact j_lle (lv' := [_, _, _, _, _, _, _, none, none]) ⟨Or.inr rfl, ⟨Or.inr rfl, ⟨Or.inr rfl, ⟨Or.inr rfl, ⟨Or.inr rfl, ⟨Or.inr rfl, ⟨Or.inr rfl, ⟨Or.inl rfl, ⟨Or.inl rfl, trivial⟩⟩⟩⟩⟩⟩⟩⟩⟩ (ih15 _ _ _ (by omega) (by omega) (by rw [hT3]; exact Lv_tr hLv2 (rel1_Lv T2 x hk.1)) (by rw [hT3, ← hT2]; exact rel_step hk.1 (by omega) (fun q => hTa2 k hk.1 (by omega) (by omega)) hIk.2.2.2.1.1 hle2.1 _ hxq) (by intro j a b c; rw [hT3, rel1_am]; by_cases z : j = k; (rw [z] at c ⊢; rw [if_pos rfl, hxz (by omega)]; have := hTa2 k hk.1 (by omega) (by omega); omega); (rw [if_neg z]; exact hTa2 j a b (by omega))) (by omega))
                refine j_iload C dX6_releases_78 rfl ?_
                refine j_if_eq (tgt := 99) C dX6_releases_80 (by decide) (by omega) (by omega) (fun c80 => ?_) (fun c80 => ?_)
                · have hP : ¬ (fr M k = from0 ∧ tO M k = to0 ∧ ra M k = rt ∧ di M k = 0) := fun q => by rw [if_pos q] at hz; omega
                  refine j_iconst C dX6_releases_99 ?_
                  exact j_lle (lv' := [_, _, _, _, _, _, _, none, none]) ⟨Or.inr rfl, ⟨Or.inr rfl, ⟨Or.inr rfl, ⟨Or.inr rfl, ⟨Or.inr rfl, ⟨Or.inr rfl, ⟨Or.inr rfl, ⟨Or.inl rfl, ⟨Or.inl rfl, trivial⟩⟩⟩⟩⟩⟩⟩⟩⟩ (L100 _ (by first | (rw [if_pos hP]; omega) | (rw [if_neg hP]; done)))
                · have hP : (fr M k = from0 ∧ tO M k = to0 ∧ ra M k = rt ∧ di M k = 0) := Classical.byContradiction (fun q => by rw [if_neg q] at hz; omega)
                  have hamk := hTa2 k hk.1 (by omega) (by omega)
                  refine j_iload C dX6_releases_83 rfl ?_
                  refine j_aload_n C dX6_releases_85 rfl ?_
                  refine j_iload C dX6_releases_86 rfl ?_
                  refine j_iconst C dX6_releases_88 ?_
                  refine j_perm (pm_1 _) ?_
                  refine j_callSi C (As := [.int (iI _), .int (iI _)]) (c_X6_p _ _ _ _ _ ) 2 nf_X6_p.2 wL_X6_79 wS_X6_p wIn_X6 wC_X6_p rfl rfl (by decide) dX6_releases_89 (Nat.le_of_ble_eq_true rfl) ⟨Nat.le_of_ble_eq_true rfl, Nat.le_of_ble_eq_true rfl⟩ (fun x89 u89 h89 => ?_)
                  refine j_perm (pr_1 _) ?_
                  subst h89
                  refine j_iald C 0 0 rfl rfl dX6_releases_92 (by decide) (by omega) (by omega) ?_
                  refine j_perm (pm_1 _) ?_
                  refine j_callSi C (As := [.int (iI _), .int (iI _)]) (c_X6_least _ _ _ _ _ (by first | assumption | omega) (by first | assumption | omega)) 2 nf_X6_least.2 wL_X6_104 wS_X6_least wIn_X6 wC_X6_least rfl rfl (by decide) dX6_releases_93 (Nat.le_of_ble_eq_true rfl) ⟨Nat.le_of_ble_eq_true rfl, Nat.le_of_ble_eq_true rfl⟩ (fun x93 u93 h93 => ?_)
                  refine j_perm (pr_1 _) ?_
                  refine j_goto (tgt := 100) C dX6_releases_96 (by decide) ?_
                  exact j_lle (lv' := [_, _, _, _, _, _, _, none, none]) ⟨Or.inr rfl, ⟨Or.inr rfl, ⟨Or.inr rfl, ⟨Or.inr rfl, ⟨Or.inr rfl, ⟨Or.inr rfl, ⟨Or.inr rfl, ⟨Or.inl rfl, ⟨Or.inl rfl, trivial⟩⟩⟩⟩⟩⟩⟩⟩⟩ (L100 _ (by first | (rw [if_pos hP]; omega) | (rw [if_neg hP]; done)))
              refine j_iload C dX6_releases_24 rfl ?_
              refine j_iconst C dX6_releases_26 ?_
              refine j_perm (pm_1 _) ?_
              refine j_callSi C (As := [.int (iI _), .int (iI _)]) (c_X6_p _ _ _ _ _ ) 2 nf_X6_p.2 wL_X6_79 wS_X6_p wIn_X6 wC_X6_p rfl rfl (by decide) dX6_releases_27 (Nat.le_of_ble_eq_true rfl) ⟨Nat.le_of_ble_eq_true rfl, Nat.le_of_ble_eq_true rfl⟩ (fun x27 u27 h27 => ?_)
              refine j_perm (pr_1 _) ?_
              subst h27
              refine j_iald C 0 0 rfl rfl dX6_releases_30 (by decide) (by omega) (by omega) ?_
              refine j_iload_n C dX6_releases_31 rfl ?_
              refine j_icmp_ne (tgt := 75) C dX6_releases_32 (by decide) (by omega) (by omega) (by omega) (by omega) (fun c32 => ?_) (fun c32 => ?_)
              · refine j_iconst C dX6_releases_75 ?_
                exact L76 _ (by first | (rw [if_pos (by omega)]; done) | (rw [if_neg (by omega)]; done))
              · refine j_aload_n C dX6_releases_35 rfl ?_
                refine j_iload C dX6_releases_36 rfl ?_
                refine j_iconst C dX6_releases_38 ?_
                refine j_perm (pm_1 _) ?_
                refine j_callSi C (As := [.int (iI _), .int (iI _)]) (c_X6_p _ _ _ _ _ ) 2 nf_X6_p.2 wL_X6_79 wS_X6_p wIn_X6 wC_X6_p rfl rfl (by decide) dX6_releases_39 (Nat.le_of_ble_eq_true rfl) ⟨Nat.le_of_ble_eq_true rfl, Nat.le_of_ble_eq_true rfl⟩ (fun x39 u39 h39 => ?_)
                refine j_perm (pr_1 _) ?_
                subst h39
                refine j_iald C 0 0 rfl rfl dX6_releases_42 (by decide) (by omega) (by omega) ?_
                refine j_iload_n C dX6_releases_43 rfl ?_
                refine j_icmp_ne (tgt := 75) C dX6_releases_44 (by decide) (by omega) (by omega) (by omega) (by omega) (fun c44 => ?_) (fun c44 => ?_)
                · refine j_iconst C dX6_releases_75 ?_
                  exact L76 _ (by first | (rw [if_pos (by omega)]; done) | (rw [if_neg (by omega)]; done))
                · refine j_aload_n C dX6_releases_47 rfl ?_
                  refine j_iload C dX6_releases_48 rfl ?_
                  refine j_iconst C dX6_releases_50 ?_
                  refine j_perm (pm_1 _) ?_
                  refine j_callSi C (As := [.int (iI _), .int (iI _)]) (c_X6_p _ _ _ _ _ ) 2 nf_X6_p.2 wL_X6_79 wS_X6_p wIn_X6 wC_X6_p rfl rfl (by decide) dX6_releases_51 (Nat.le_of_ble_eq_true rfl) ⟨Nat.le_of_ble_eq_true rfl, Nat.le_of_ble_eq_true rfl⟩ (fun x51 u51 h51 => ?_)
                  refine j_perm (pr_1 _) ?_
                  subst h51
                  refine j_iald C 0 0 rfl rfl dX6_releases_54 (by decide) (by omega) (by omega) ?_
                  refine j_iload C dX6_releases_55 rfl ?_
                  refine j_icmp_ne (tgt := 75) C dX6_releases_57 (by decide) (by omega) (by omega) (by omega) (by omega) (fun c57 => ?_) (fun c57 => ?_)
                  · refine j_iconst C dX6_releases_75 ?_
                    exact L76 _ (by first | (rw [if_pos (by omega)]; done) | (rw [if_neg (by omega)]; done))
                  · refine j_aload_n C dX6_releases_60 rfl ?_
                    refine j_iload C dX6_releases_61 rfl ?_
                    refine j_iconst C dX6_releases_63 ?_
                    refine j_perm (pm_1 _) ?_
                    refine j_callSi C (As := [.int (iI _), .int (iI _)]) (c_X6_p _ _ _ _ _ ) 2 nf_X6_p.2 wL_X6_79 wS_X6_p wIn_X6 wC_X6_p rfl rfl (by decide) dX6_releases_64 (Nat.le_of_ble_eq_true rfl) ⟨Nat.le_of_ble_eq_true rfl, Nat.le_of_ble_eq_true rfl⟩ (fun x64 u64 h64 => ?_)
                    refine j_perm (pr_1 _) ?_
                    subst h64
                    refine j_iald C 0 0 rfl rfl dX6_releases_67 (by decide) (by omega) (by omega) ?_
                    refine j_if_ne (tgt := 75) C dX6_releases_68 (by decide) (by omega) (by omega) (fun c68 => ?_) (fun c68 => ?_)
                    · refine j_iconst C dX6_releases_75 ?_
                      exact L76 _ (by first | (rw [if_pos (by omega)]; done) | (rw [if_neg (by omega)]; done))
                    · refine j_iconst C dX6_releases_71 ?_
                      refine j_goto (tgt := 76) C dX6_releases_72 (by decide) ?_
                      exact L76 _ (by first | (rw [if_pos (by omega)]; done) | (rw [if_neg (by omega)]; done))
        exact L15 _ _ _ _ (by omega) (by omega) (by exact hLv) (by rw [← hT, ls_end (by omega)]) (by intro j a b c; exact hTa j a b (by omega)) (Nat.lt_succ_self _)
  exact L7 _ _ _ _ (by omega) (by omega) (by exact Lv_rfl M) (by rfl) (by intro j a b c; rfl) (Nat.lt_succ_self _)
set_option maxHeartbeats 4000000 in
set_option maxRecDepth 100000 in
theorem c_X6_discharges (l : Launch) (D : va_G) (cA : Nat → ClassId) (a : Nat → Nat) (q1 : Nat) (G M R B1 : Int → Int) (r : List Int) (amt : Int) (hG : G 4 = (r.length : Int)) (hR0 : RWS R r) (hr : r.length ≤ 7 ∧ ∀ y ∈ r, 0 ≤ y ∧ y < 7) (hv : PV r) (hI : Inv M) (hB : ∀ q k : Int, 0 ≤ q → q < 49 → 0 ≤ k → k < 10 → B1 (10 * q + k) = bQ M q k) (ha : 0 ≤ amt ∧ amt ≤ 40000) (hd : ∀ q ∈ prs r, amt ≤ dQ M q) : MI (U := Unit) l yX6_discharges cX6_discharges 5 (some .int) (rmN 4 0 0) D cA [.ref (a 0), .ref (q1), .int (iI amt)] [mO a G, [(q1, aJ (cA 0) 325 M)], [(a 7, aJ (cA 0) 8 R)], [(a 6, aJ (cA 0) 490 B1)]] (fun x _ => x = savP M r amt) (fun _ => [mO a G, [(q1, aJ (cA 0) 325 (disR M r amt))], [(a 7, aJ (cA 0) 8 R)], [(a 6, aJ (cA 0) 490 B1)]]) := by
  refine m_startI pn_X6 rfl (List.forall_mem_cons.mpr ⟨rfl, List.forall_mem_cons.mpr ⟨rfl, List.forall_mem_cons.mpr ⟨rfl, fun _ h => absurd h List.not_mem_nil⟩⟩⟩) (Nat.le_of_ble_eq_true rfl) ?_
  intro K C e1 e2 e3 hin hR
  subst e1 e2 e3
  show J K 0 0 [mO a G, [(q1, aJ ((kC K) 0) 325 M)], [(a 7, aJ ((kC K) 0) 8 R)], [(a 6, aJ ((kC K) 0) 490 B1)]] [some (.ref (a 0)), some (.ref (q1)), some (.int (iI amt)), none, none] 0 []
  refine j_aload_n C dX6_discharges_0 rfl ?_
  refine j_iload_n C dX6_discharges_1 rfl ?_
  refine j_perm (pm_4_0_2_3 _ _ _ _) ?_
  refine j_callVi C (As := [.int (iI _)]) (c_X6_savingBy _ _ _ _ _ _ _ (bQ M) (r) _ (by first | assumption | omega) (by first | assumption | omega) (by first | assumption | omega) (by exact hB) (by exact bQ_bd hI) (by first | assumption | omega)) 1 nf_X6_savingBy (jb := 0) rfl rfl wL_X6_114 wI_X6_savingBy wSe_X6_X6_savingBy wIn_X6 wC_X6_savingBy rfl rfl (by decide) dX6_discharges_2 (Nat.le_of_ble_eq_true rfl) ⟨Nat.le_of_ble_eq_true rfl, Nat.le_of_ble_eq_true rfl⟩ (fun x2 u2 h2 => ?_)
  refine j_perm (pr_4_0_2_3 _ _ _ _) ?_
  refine j_istn_3 C dX6_discharges_5 rfl ?_
  refine j_iconst C dX6_discharges_6 ?_
  refine j_ist_4 C dX6_discharges_7 rfl ?_
  have L9 : ∀ (fuel : Nat) (T : Int → Int) (k : Int) (hk : 0 ≤ k ∧ k ≤ (r.length : Int)) (hT : T = rlC M ((prs r).take k.toNat) amt) (hf9 : (7 - k).toNat < fuel), J K 0 0 [mO a G, [(q1, aJ ((kC K) 0) 325 T)], [(a 7, aJ ((kC K) 0) 8 R)], [(a 6, aJ ((kC K) 0) 490 B1)]] [some (.ref (a 0)), some (.ref (q1)), some (.int (iI amt)), some (.int (iI x2)), some (.int (iI k))] 9 [] := by
    intro fuel
    induction fuel with
    | zero => intro T k hk hT hf9; exact absurd hf9 (Nat.not_lt_zero _)
    | succ fuel ih9 =>
      intro T k hk hT hf9
      refine j_iload C dX6_discharges_9 rfl ?_
      refine j_aload_n C dX6_discharges_11 rfl ?_
      refine j_get C 0 0 12 rfl rfl rfl wU_X6 (by decide) wF_X6_86 rfl dX6_discharges_12 ?_
      refine j_icmp_ge (tgt := 42) C dX6_discharges_15 (by decide) (by omega) (by omega) (by omega) (by omega) (fun c15 => ?_) (fun c15 => ?_)
      · rw [List.take_of_length_le (by rw [prs_len]; omega)] at hT
        refine j_aload_n C dX6_discharges_42 rfl ?_
        refine j_iconst C dX6_discharges_43 ?_
        refine j_dup2 C dX6_discharges_44 rfl rfl ?_
        refine j_iald C 1 0 rfl rfl dX6_discharges_45 (by decide) (by omega) (by omega) ?_
        refine j_iload_n C dX6_discharges_46 rfl ?_
        refine j_aload_n C dX6_discharges_47 rfl ?_
        refine j_get C 0 0 12 rfl rfl rfl wU_X6 (by decide) wF_X6_86 rfl dX6_discharges_48 ?_
        refine j_imul C dX6_discharges_51 ?_
        refine j_iadd C dX6_discharges_52 ?_
        refine j_iast_p1 C 0 rfl ar1_ast dX6_discharges_53 (by decide) (by omega) (by omega) ?_
        refine j_aload_n C dX6_discharges_54 rfl ?_
        refine j_iconst C dX6_discharges_55 ?_
        refine j_dup2 C dX6_discharges_56 rfl rfl ?_
        refine j_iald C 1 0 rfl rfl dX6_discharges_57 (by decide) (by omega) (by omega) ?_
        refine j_iconst C dX6_discharges_58 ?_
        refine j_iadd C dX6_discharges_59 ?_
        refine j_iast_p1 C 0 rfl ar1_ast dX6_discharges_60 (by decide) (by omega) (by omega) ?_
        refine j_iload_n C dX6_discharges_61 rfl ?_
        exact hR () dX6_discharges_62 (by exact h2) (by rw [hT, hG, disR_rl hI hv ha.1 hd]) (Nat.le_of_ble_eq_true rfl) (Nat.le_of_ble_eq_true rfl)
      · have hRk := hR0 k hk.1 (by omega)
        have hbk := hr.2 _ (getD_mem (l := r) (z := 0) (k := k.toNat) (by omega))
        refine j_aload_n C dX6_discharges_18 rfl ?_
        refine j_aload_n C dX6_discharges_19 rfl ?_
        refine j_get C 0 0 10 rfl rfl rfl wU_X6 (by decide) wF_X6_28 rfl dX6_discharges_20 ?_
        refine j_iload C dX6_discharges_23 rfl ?_
        refine j_iald C 2 0 rfl rfl dX6_discharges_25 (by decide) (by omega) (by omega) ?_
        refine j_aload_n C dX6_discharges_26 rfl ?_
        refine j_iload C dX6_discharges_27 rfl ?_
        refine j_perm (pm_4_0_2 _ _ _ _) ?_
        refine j_callVi C (As := [.int (iI _)]) (c_X6_follower _ _ _ _ _ _ (r) _ (by first | assumption | omega) (by first | assumption | omega) (by first | assumption | omega) (by first | assumption | omega)) 1 nf_X6_follower (jb := 0) rfl rfl wL_X6_107 wI_X6_follower wSe_X6_X6_follower wIn_X6 wC_X6_follower rfl rfl (by decide) dX6_discharges_29 (Nat.le_of_ble_eq_true rfl) ⟨Nat.le_of_ble_eq_true rfl, Nat.le_of_ble_eq_true rfl⟩ (fun x29 u29 h29 => ?_)
        refine j_perm (pr_4_0_2 _ _ _ _) ?_
        have hpk : (prs r).getD k.toNat 0 = 7 * R k + x29 := by
          rw [prs_g (by omega), hRk, h29]
          by_cases c : k + 1 < (r.length : Int)
          · rw [if_pos c, if_pos (by omega), show k.toNat + 1 = (k + 1).toNat by omega]
          · rw [if_neg c, if_neg (by omega)]
        have hxb : 0 ≤ x29 ∧ x29 < 7 := by
          rw [h29]
          split
          · exact hr.2 _ (getD_mem (l := r) (z := 0) (k := (k + 1).toNat) (by omega))
          · exact hr.2 _ (headD_mem hv.1)
        refine j_iload_n C dX6_discharges_32 rfl ?_
        refine j_perm (pm_4_1 _ _ _ _) ?_
        refine j_callSv C (As := [.ref _, .int (iI _), .int (iI _), .int (iI _)]) (c_X6_releases _ _ _ _ _ _ _ _ (by rw [hT]; exact rlC_Inv _ _ _ hI ha.1) (by rw [hRk]; exact hbk) (by exact hxb) (by exact ha)) 4 nf_X6_releases.2 wL_X6_117 wS_X6_releases wIn_X6 wC_X6_releases rfl rfl (by decide) dX6_discharges_33 (Nat.le_of_ble_eq_true rfl) ⟨Nat.le_of_ble_eq_true rfl, Nat.le_of_ble_eq_true rfl⟩ (fun u33 h33 => ?_)
        refine j_perm (pr_4_1 _ _ _ _) ?_
        refine j_iinc_4 C dX6_discharges_36 rfl ?_
        refine j_goto (tgt := 9) C dX6_discharges_39 (by decide) ?_
        exact ih9 _ _ (by omega) (by rw [h33, show (k + 1).toNat = k.toNat + 1 by omega, rlC_tk (by rw [prs_len]; omega), ← hT, hpk]) (by omega)
  exact L9 _ _ _ (by omega) (by rfl) (Nat.lt_succ_self _)
