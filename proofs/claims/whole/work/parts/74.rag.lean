/-! the two states: what is the same of them -/
theorem ag_f {S M : Int → Int} (h : Ag S M) {k : Int} (k0 : 0 ≤ k) (k1 : k < S 1) : fr M k = fr S k ∧ tO M k = tO S k ∧ am M k = am S k ∧ ra M k = ra S k ∧ di M k = di S k ∧ fi M k = fi S k ∧ pa M k = pa S k ∧ re M k = re S k := ⟨h.1 _ (by omega) (by omega), h.1 _ (by omega) (by omega), h.1 _ (by omega) (by omega), h.1 _ (by omega) (by omega), h.1 _ (by omega) (by omega), h.1 _ (by omega) (by omega), h.1 _ (by omega) (by omega), h.1 _ (by omega) (by omega)⟩
theorem Ag_Inv {S M : Int → Int} (hI : Inv S) (h : Ag S M) : Inv M := by
  have e := Ag_h h hI.2.1.1
  refine ⟨by rw [e.1]; exact hI.1, by rw [e.2.1]; exact hI.2.1, fun k k0 k1 => ?_⟩
  rw [e.2.1] at k1
  have f := ag_f h k0 k1
  rw [f.1, f.2.1, f.2.2.1, f.2.2.2.1, f.2.2.2.2.1, e.1]
  exact hI.2.2 k k0 k1
theorem dQ_ag {S M : Int → Int} (hI : Inv S) (h : Ag S M) : dQ M = dQ S := by
  funext q
  unfold dQ
  rw [(Ag_h h hI.2.1.1).2.1]
  refine sumZ_congr (fun k a b => ?_)
  have f := ag_f h a b
  rw [f.1, f.2.1, f.2.2.1, f.2.2.2.2.1]
theorem bQ_ag {S M : Int → Int} (hI : Inv S) (h : Ag S M) : bQ M = bQ S := by
  funext q r
  unfold bQ
  rw [(Ag_h h hI.2.1.1).2.1]
  refine sumZ_congr (fun k a b => ?_)
  have f := ag_f h a b
  rw [f.1, f.2.1, f.2.2.1, f.2.2.2.1, f.2.2.2.2.1]
theorem dW_ag {S M : Int → Int} (hI : Inv S) (h : Ag S M) (w : Int) : dW M w = dW S w := by
  funext q
  unfold dW
  rw [(Ag_h h hI.2.1.1).2.1]
  refine sumZ_congr (fun k a b => ?_)
  have f := ag_f h a b
  rw [f.1, f.2.1, f.2.2.1, f.2.2.2.2.1]
theorem RS_ag {S M : Int → Int} (hI : Inv S) (h : Ag S M) : RS M = RS S := by
  unfold RS
  rw [dQ_ag hI h]
theorem rwO_ag {S M : Int → Int} (hI : Inv S) (h : Ag S M) (w : Int) : rwO M w = rwO S w := by
  unfold rwO
  rw [dW_ag hI h]
theorem room_ag {S M : Int → Int} (hI : Inv S) (h : Ag S M) : room M = room S := by
  funext r
  unfold room
  rw [dQ_ag hI h]
theorem savP_ag {S M : Int → Int} (hI : Inv S) (h : Ag S M) : savP M = savP S := by
  funext r amt
  unfold savP cQ
  rw [bQ_ag hI h]
theorem sav_ag {S M : Int → Int} (hI : Inv S) (h : Ag S M) : sav M = sav S := by
  funext r
  unfold sav
  rw [savP_ag hI h, room_ag hI h]
theorem best_ag {S M : Int → Int} (hI : Inv S) (h : Ag S M) : best M = best S ∧ bestV M = bestV S := by
  unfold best bestV
  rw [sav_ag hI h, RS_ag hI h]
  exact ⟨rfl, rfl⟩
theorem rwO_RS {S : Int → Int} : rwO S (-1) = ((RS S).length : Int) := by
  unfold rwO
  rw [RG_none]
theorem best_none {S : Int → Int} (hI : Inv S) : best S = -1 ↔ (RS S).length = 0 := by
  have h := best_rng S
  constructor
  · intro e
    apply Classical.byContradiction
    intro c
    have hh : ∀ (L : List (List Int)) (i b m : Int), 0 ≤ i → (-1 < b ∨ (m = 0 ∧ L ≠ [] ∧ ∀ r ∈ L, 0 < sav S r)) → -1 < (bs (sav S) L i b m).1 := by
      intro L
      induction L with
      | nil =>
        intro i b m _ q
        rcases q with q | q
        · exact q
        · exact absurd rfl q.2.1
      | cons r t ih =>
        intro i b m hi q
        rw [bs]
        by_cases d : m < sav S r
        · rw [if_pos d]
          exact ih (i + 1) i (sav S r) (by omega) (Or.inl (by omega))
        · rw [if_neg d]
          rcases q with q | q
          · exact ih (i + 1) b m (by omega) (Or.inl q)
          · have := q.2.2 r List.mem_cons_self
            omega
    have := hh (RS S) 0 (-1) 0 (by omega) (Or.inr ⟨rfl, fun z => c (by rw [z]; rfl), fun r hr => sav_pos hI (RS_PR hr)⟩)
    have e2 : (bs (sav S) (RS S) 0 (-1) 0).1 = -1 := e
    omega
  · intro e
    omega
theorem netS_ag {S M : Int → Int} (hI : Inv S) (h : Ag S M) : netS M = netS S := by
  funext p
  unfold netS netF
  rw [(Ag_h h hI.2.1.1).2.1]
  refine sumZ_congr (fun k a b => ?_)
  have f := ag_f h a b
  rw [f.1, f.2.1, f.2.2.1]
theorem gainS_ag {S M : Int → Int} (hI : Inv S) (h : Ag S M) : gainS M = gainS S := by
  unfold gainS
  rw [netS_ag hI h, (Ag_h h hI.2.1.1).1]
theorem opnS_ag {S M : Int → Int} (hI : Inv S) (h : Ag S M) : opnS M = opnS S := by
  unfold opnS
  rw [(Ag_h h hI.2.1.1).2.1]
  refine sumZ_congr (fun k a b => ?_)
  rw [(ag_f h a b).2.2.1]
theorem disS_ag {S M : Int → Int} (hI : Inv S) (h : Ag S M) : disS M = disS S := by
  unfold disS
  rw [(Ag_h h hI.2.1.1).2.1]
  exact sumZ_congr (fun k a b => (ag_f h a b).2.2.2.2.1)
theorem allS_ag {S M : Int → Int} (hI : Inv S) (h : Ag S M) : allS M = allS S := by
  unfold allS
  rw [(Ag_h h hI.2.1.1).2.1]
  exact sumZ_congr (fun k a b => (ag_f h a b).2.2.1)
theorem cosS_ag {S M : Int → Int} (hI : Inv S) (h : Ag S M) : cosS M = cosS S := by
  unfold cosS
  rw [(Ag_h h hI.2.1.1).2.1]
  refine sumZ_congr (fun k a b => ?_)
  rw [(ag_f h a b).2.2.1, (ag_f h a b).2.2.2.1]
theorem debS_ag {S : Int → Int} (hI : Inv S) {a b : Int} (ha : 0 ≤ a ∧ a < 7) (hb : 0 ≤ b ∧ b < 7) : dQ S (7 * a + b) = debS S a b := (debS_dQ hI ha hb).symm
/-- the same change of both -/
theorem Ag_st {S M : Int → Int} (h : Ag S M) {i v : Int} (h0 : 0 ≤ i) (h1 : i < 5 + 8 * S 1) (hi : i ≠ 1) : Ag (st S i v) (st M i v) := by
  have e : st S i v 1 = S 1 := st_n (fun q => hi q.symm)
  refine ⟨fun j a b => ?_, fun j a b => ?_⟩
  · rw [e] at b
    by_cases c : j = i
    · rw [c, st_s, st_s]
    · rw [st_n c, st_n c]
      exact h.1 j a b
  · rw [e] at a
    rw [st_n (by omega)]
    exact h.2 j a b
theorem rel1_Ag {S M : Int → Int} (h : Ag S M) {k x : Int} (k0 : 0 ≤ k) (k1 : k < S 1) : Ag (rel1 S k x) (rel1 M k x) := by
  have f := ag_f h k0 k1
  unfold rel1
  rw [f.2.2.1, f.2.2.2.2.2.2.2]
  refine Ag_st (Ag_st h (by omega) (by omega) (by omega)) (by omega) ?_ (by omega)
  rw [st_n (by omega)]
  omega
theorem relC_Ag : ∀ (l : List Int) (S M : Int → Int) (left : Int), Ag S M → (∀ k ∈ l, 0 ≤ k ∧ k < S 1) → Ag (relC S l left) (relC M l left)
  | [], _, _, _, h, _ => h
  | k :: t, S, M, left, h, hl => by
    have hk := hl k List.mem_cons_self
    have e : rel1 S k (min left (am S k)) 1 = S 1 := (rel1_Lv S (min left (am S k)) hk.1).1 1 (by omega) (by omega)
    rw [relC, relC, (ag_f h hk.1 hk.2).2.2.1]
    exact relC_Ag t _ _ _ (rel1_Ag h hk.1 hk.2) (fun x hx => by rw [e]; exact hl x (List.mem_cons_of_mem _ hx))
theorem chR_ag {S M : Int → Int} (hI : Inv S) (h : Ag S M) (q : Int) (r : Nat) : chR M q r = chR S q r := chR_congr (Ag_h h hI.2.1.1).2.1 hI.2.1.1 (fun k a b => by
  have f := ag_f h a b
  exact ⟨f.1, f.2.1, f.2.2.2.1, f.2.2.2.2.1, fun _ => f.2.2.1⟩) r
theorem relK_Ag {S M : Int → Int} {q amt : Int} (hI : Inv S) (h : Ag S M) (h0 : 0 ≤ amt) : Ag (relK S (chR S q 9) amt) (relK M (chR M q 9) amt) := by
  have hM := Ag_Inv hI h
  have g : ∀ {T : Int → Int}, Inv T → ∀ k ∈ chR T q 9, 0 ≤ k ∧ 0 ≤ am T k := fun hT k hk => by
    have := chR_mem hk hT.2.1.1
    have := this.1.2.1
    omega
  rw [relK_eq _ _ _ (chR_nd hI.2.1.1 9) h0 (g hI), relK_eq _ _ _ (chR_nd hM.2.1.1 9) h0 (g hM), ch_sum hI, ch_sum hM, dQ_ag hI h, (Ag_h h hI.2.1.1).2.2.2.1, chR_ag hI h]
  have hm : ∀ k ∈ chR S q 9, 0 ≤ k ∧ k < S 1 := fun k hk => by
    have := chR_mem hk hI.2.1.1
    exact ⟨this.2.1, this.2.2.1⟩
  have e : relC S (chR S q 9) amt 1 = S 1 := (relC_Lv _ S amt (fun k hk => (hm k hk).1)).1 1 (by omega) (by omega)
  refine Ag_st (relC_Ag _ _ _ _ h hm) (by omega) ?_ (by omega)
  have := hI.2.1
  omega
theorem disK_Ag : ∀ (l : List Int) (S M : Int → Int) (amt : Int), Inv S → Ag S M → 0 ≤ amt → Ag (disK S l amt) (disK M l amt)
  | [], _, _, _, _, h, _ => h
  | q :: t, S, M, amt, hI, h, h0 => by
    rw [disK, disK]
    exact disK_Ag t _ _ amt (relK_Inv hI h0) (relK_Ag hI h h0) h0
theorem disR_Ag {S M : Int → Int} {r : List Int} {amt : Int} (hI : Inv S) (h : Ag S M) (h0 : 0 ≤ amt) : Ag (disR S r amt) (disR M r amt) := by
  have g := disK_Ag (prs r) S M amt hI h h0
  have hK := (disK_o (prs r) S amt hI h0).2.1
  have e := (Ag_h g hK.2.1.1).2.2.2.2
  unfold disR
  rw [e]
  exact Ag_st g (by omega) (by have := hK.2.1; omega) (by omega)
theorem disB_Ag {S M : Int → Int} (hI : Inv S) (h : Ag S M) (hb : best S ≠ -1) : Ag (disB S) (disB M) := by
  have hr := best_rng S
  have hm := room_bd hI (RS_get (S := S) (i := best S) (by omega) (by omega))
  show Ag (disR S _ (room S _)) (disR M _ (room M _))
  rw [(best_ag hI h).1, RS_ag hI h, room_ag hI h]
  exact disR_Ag hI h (by omega)
theorem disA_Ag : ∀ (n : Nat) (S M : Int → Int) (c : Int), Inv S → Ag S M → Ag (disA n S c).1 (disA n M c).1 ∧ (disA n M c).2 = (disA n S c).2
  | 0, _, _, _, _, h => ⟨h, rfl⟩
  | n + 1, S, M, c, hI, h => by
    rw [disA, disA, (best_ag hI h).1]
    by_cases e : best S = -1
    · rw [if_pos e, if_pos e]
      exact ⟨h, rfl⟩
    · rw [if_neg e, if_neg e]
      exact disA_Ag n _ _ _ (disB_Inv hI e) (disB_Ag hI h e)
theorem Ag_rst {S M : Int → Int} {p : Int} (h : ∀ j : Int, 0 ≤ j → j < 325 → M j = 0) : Ag (rstP S p) (st M 0 p) := by
  have e : rstP S p 1 = 0 := by unfold rstP; rw [st_n (by omega), st_n (by omega), st_n (by omega), st_s]
  refine ⟨fun j a b => ?_, fun j a b => ?_⟩
  · rw [e] at b
    unfold rstP
    rcases (show j = 0 ∨ j = 1 ∨ j = 2 ∨ j = 3 ∨ j = 4 by omega) with rfl | rfl | rfl | rfl | rfl
    · rw [st_s, st_n (by omega), st_n (by omega), st_n (by omega), st_n (by omega), st_s]
    · rw [st_n (by omega), h 1 (by omega) (by omega), st_n (by omega), st_n (by omega), st_n (by omega), st_s]
    · rw [st_n (by omega), h 2 (by omega) (by omega), st_n (by omega), st_n (by omega), st_s]
    · rw [st_n (by omega), h 3 (by omega) (by omega), st_n (by omega), st_s]
    · rw [st_n (by omega), h 4 (by omega) (by omega), st_s]
  · rw [e] at a
    rw [st_n (by omega)]
    exact h j (by omega) b
/-- a promise made by the reference -/
def mkP (M : Int → Int) (a b x r : Int) : Int → Int := let T := st (st (st (st (st M (5 + 8 * M 1 + 0) a) (5 + 8 * M 1 + 1) b) (5 + 8 * M 1 + 2) x) (5 + 8 * M 1 + 3) r) (5 + 8 * M 1 + 5) x; st T 1 (T 1 + 1)
theorem mk_Ag {S M : Int → Int} (hI : Inv S) (h : Ag S M) (hn : S 1 < 40) (a b x r : Int) : Ag (addP S a b x r) (mkP M a b x r) := by
  have e1 := (Ag_h h hI.2.1.1).2.1
  have hN := hI.2.1
  have e2 : addP S a b x r 1 = S 1 + 1 := by
    unfold addP
    rw [st_s, st_n (by omega), st_n (by omega), st_n (by omega), st_n (by omega), st_n (by omega), st_n (by omega), st_n (by omega), st_n (by omega)]
  unfold mkP
  dsimp only
  rw [e1]
  refine ⟨fun j p q => ?_, fun j p q => ?_⟩
  · rw [e2] at q
    unfold addP
    by_cases c : j = 1
    · rw [c, st_s, st_s, st_n (by omega), st_n (by omega), st_n (by omega), st_n (by omega), st_n (by omega), st_n (by omega), st_n (by omega), st_n (by omega), st_n (by omega), st_n (by omega), st_n (by omega), st_n (by omega), st_n (by omega), e1]
    · rw [st_n c, st_n c]
      by_cases c2 : j < 5 + 8 * S 1
      · rw [st_n (by omega), st_n (by omega), st_n (by omega), st_n (by omega), st_n (by omega), st_n (by omega), st_n (by omega), st_n (by omega), st_n (by omega), st_n (by omega), st_n (by omega), st_n (by omega), st_n (by omega)]
        exact h.1 j p c2
      · rcases (show j = 5 + 8 * S 1 ∨ j = 6 + 8 * S 1 ∨ j = 7 + 8 * S 1 ∨ j = 8 + 8 * S 1 ∨ j = 9 + 8 * S 1 ∨ j = 10 + 8 * S 1 ∨ j = 11 + 8 * S 1 ∨ j = 12 + 8 * S 1 by omega) with z | z | z | z | z | z | z | z
        · unfold st
          rw [if_neg (by omega), if_neg (by omega), if_neg (by omega), if_neg (by omega), if_pos (by omega), if_neg (by omega), if_neg (by omega), if_neg (by omega), if_neg (by omega), if_neg (by omega), if_neg (by omega), if_neg (by omega), if_pos (by omega)]
        · unfold st
          rw [if_neg (by omega), if_neg (by omega), if_neg (by omega), if_pos (by omega), if_neg (by omega), if_neg (by omega), if_neg (by omega), if_neg (by omega), if_neg (by omega), if_neg (by omega), if_pos (by omega)]
        · unfold st
          rw [if_neg (by omega), if_neg (by omega), if_pos (by omega), if_neg (by omega), if_neg (by omega), if_neg (by omega), if_neg (by omega), if_neg (by omega), if_pos (by omega)]
        · unfold st
          rw [if_neg (by omega), if_pos (by omega), if_neg (by omega), if_neg (by omega), if_neg (by omega), if_neg (by omega), if_pos (by omega)]
        · unfold st
          rw [if_neg (by omega), if_neg (by omega), if_neg (by omega), if_neg (by omega), if_neg (by omega), if_pos (by omega)]
          exact h.2 j (by omega) (by omega)
        · unfold st
          rw [if_pos (by omega), if_neg (by omega), if_neg (by omega), if_neg (by omega), if_pos (by omega)]
        · unfold st
          rw [if_neg (by omega), if_neg (by omega), if_neg (by omega), if_neg (by omega), if_neg (by omega), if_neg (by omega), if_neg (by omega), if_pos (by omega)]
          exact h.2 j (by omega) (by omega)
        · unfold st
          rw [if_neg (by omega), if_neg (by omega), if_neg (by omega), if_neg (by omega), if_neg (by omega), if_neg (by omega), if_pos (by omega)]
          exact h.2 j (by omega) (by omega)
  · rw [e2] at p
    rw [st_n (by omega), st_n (by omega), st_n (by omega), st_n (by omega), st_n (by omega), st_n (by omega)]
    exact h.2 j (by omega) q
/-- a call of the reference that is refused, or asks: nothing is changed -/
def RU (G G2 : Int → Int) (cd : Int) : Prop := G2 0 = G 0 ∧ G2 1 = G 1 ∧ G2 2 = cd
def SVP (g0 : Int) (M V V2 : Int → Int) : Prop := (g0 < 4 → V2 = cpA M V 0 (325 * g0) 325) ∧ (g0 = 4 → ∀ k : Int, 0 ≤ k → k < 1300 → V2 k = if k < 975 then V (k + 325) else M (k - 975))
/-- a call of the reference that saves -/
def RV2 (G M V G2 V2 : Int → Int) : Prop := SVP (G 0) M V V2 ∧ G2 0 = (if G 0 < 4 then G 0 + 1 else 4) ∧ G2 1 = G 1 ∧ G2 2 = 0

