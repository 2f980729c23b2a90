/-! p29: the law's helpers: what they stand on -/
theorem pO0 {S : Int → Int} {i : Int} : S (5 + 8 * i + 0) = fr S i := by unfold fr; congr 1; omega
theorem pO1 {S : Int → Int} {i : Int} : S (5 + 8 * i + 1) = tO S i := by unfold tO; congr 1; omega
theorem pO2 {S : Int → Int} {i : Int} : S (5 + 8 * i + 2) = am S i := by unfold am; congr 1; omega
theorem pO3 {S : Int → Int} {i : Int} : S (5 + 8 * i + 3) = ra S i := by unfold ra; congr 1; omega
theorem pO4 {S : Int → Int} {i : Int} : S (5 + 8 * i + 4) = di S i := by unfold di; congr 1; omega
theorem pO5 {S : Int → Int} {i : Int} : S (5 + 8 * i + 5) = fi S i := by unfold fi; congr 1; omega
theorem pO6 {S : Int → Int} {i : Int} : S (5 + 8 * i + 6) = pa S i := by unfold pa; congr 1; omega
theorem pO7 {S : Int → Int} {i : Int} : S (5 + 8 * i + 7) = re S i := by unfold re; congr 1; omega
theorem vO0 {S : Int → Int} : valS S 0 = S 0 := rfl
theorem vO1 {S : Int → Int} : valS S 1 = S 1 := rfl
theorem vO2 {S : Int → Int} : valS S 2 = opnS S := rfl
theorem vO3 {S : Int → Int} : valS S 3 = disS S := rfl
theorem vO4 {S : Int → Int} : valS S 4 = allS S := rfl
theorem vO5 {S : Int → Int} : valS S 5 = cosS S := rfl
theorem vO6 {S : Int → Int} : valS S 6 = ((RS S).length : Int) := rfl
theorem vO7 {S : Int → Int} : valS S 7 = S 2 := rfl
theorem vO8 {S : Int → Int} : valS S 8 = S 3 := rfl
theorem vO9 {S : Int → Int} : valS S 9 = S 4 := rfl
theorem vO10 {S : Int → Int} : valS S 10 = gainS S := rfl
theorem val_bd {S : Int → Int} (g : Good S) : (0 ≤ opnS S ∧ opnS S ≤ 40) ∧ (0 ≤ disS S ∧ disS S ≤ 40) ∧ (0 ≤ allS S ∧ allS S ≤ 40000) ∧ (0 ≤ cosS S ∧ cosS S ≤ 360000) ∧ (0 ≤ S 2 ∧ S 2 ≤ 40000) ∧ (0 ≤ S 3 ∧ S 3 ≤ 40000) ∧ (0 ≤ gainS S ∧ gainS S ≤ 280000) := by
  obtain ⟨hI, hz, hg, h2, h3⟩ := g
  have hn := hI.2.1
  have hp := hI.1
  have a1 := sumZ_bd (f := fun k => if am S k > 0 then (1 : Int) else 0) (a := 0) (b := 1) hn.1 (fun k _ _ => by split <;> omega)
  have a2 := sumZ_bd (f := fun k => di S k) (a := 0) (b := 1) hn.1 (fun k a b => by have := (hI.2.2 k a b).2.2.2.2.2; omega)
  have a3 := sumZ_bd (f := am S) (a := 0) (b := 1000) hn.1 (fun k a b => (hI.2.2 k a b).2.2.2.1)
  have a4 := sumZ_bd (f := fun k => am S k * ra S k) (a := 0) (b := 9000) hn.1 (fun k a b => by
    have f := (hI.2.2 k a b).2.2.2
    refine ⟨Int.mul_nonneg (by omega) (by omega), ?_⟩
    have q1 : am S k * ra S k ≤ 1000 * ra S k := Int.mul_le_mul_of_nonneg_right (by omega) (by omega)
    have q2 : 1000 * ra S k ≤ 1000 * 9 := Int.mul_le_mul_of_nonneg_left (by omega) (by omega)
    show am S k * ra S k ≤ 9000
    omega)
  have a5 := sumZ_bd (f := pa S) (a := 0) (b := 1000) hn.1 (fun k a b => by have f := (hI.2.2 k a b).2.2.2.1; have q := hg k a b; omega)
  have a6 := sumZ_bd (f := re S) (a := 0) (b := 1000) hn.1 (fun k a b => by have f := (hI.2.2 k a b).2.2.2.1; have q := hg k a b; omega)
  have a7 := sumZ_bd (f := fun p => if netS S p > 0 then netS S p else 0) (a := 0) (b := 40000) (n := S 0) (by omega) (fun p _ _ => by have := netS_bd hI p; split <;> omega)
  unfold opnS disS allS cosS gainS
  rw [h2, h3]
  omega
/-! a ring's row -/
theorem RS_in {S : Int → Int} {j : Int} (h0 : 0 ≤ j) (h1 : j < ((RS S).length : Int)) : (RS S).getD j.toNat [] ∈ RG (dQ S) := by
  rw [List.getD_eq_getElem?_getD, List.getElem?_eq_getElem (by omega)]
  exact List.getElem_mem (l := RS S) (by omega)
theorem row_get {R : List Int} (h : PV R) (i : Int) (hi : 0 ≤ i) : (i < (R.length : Int) ∧ 0 ≤ R.getD i.toNat (-1) ∧ R.getD i.toNat (-1) < 7) ∨ ((R.length : Int) ≤ i ∧ R.getD i.toNat (-1) = -1) := by
  by_cases c : i.toNat < R.length
  · have := getD_in (z := -1) h.2.2.1 c
    exact Or.inl ⟨by omega, this.1, this.2⟩
  · exact Or.inr ⟨by omega, getD_out (by omega)⟩
theorem row_head {R : List Int} (h : R ≠ []) : R.headD 0 = R.getD 0 (-1) := by
  match R, h with
  | a :: t, _ => rfl
theorem row_first {R : List Int} (h : ∀ p ∈ R.tail, R.headD 0 < p) (hr : R ≠ []) (i : Int) (h0 : 0 < i) (h1 : i < (R.length : Int)) : R.getD 0 (-1) < R.getD i.toNat (-1) := by
  rw [← row_head hr]
  refine h _ ?_
  match R, hr with
  | a :: t, _ =>
    obtain ⟨n, hn⟩ : ∃ n : Nat, i.toNat = n + 1 := ⟨i.toNat - 1, by omega⟩
    rw [hn, List.tail_cons, List.getD_cons_succ, List.getD_eq_getElem?_getD, List.getElem?_eq_getElem (by simp only [List.length_cons] at h1; omega)]
    exact List.getElem_mem _
def mkS (S : Int → Int) (R : List Int) : Nat → Int
  | 0 => 40001
  | k + 1 => min (mkS S R k) (dQ S ((prs R).getD k (-1)))
theorem mkS_le (S : Int → Int) (R : List Int) : ∀ k : Nat, ∀ i : Nat, i < k → mkS S R k ≤ dQ S ((prs R).getD i (-1))
  | 0, _, h => absurd h (Nat.not_lt_zero _)
  | k + 1, i, h => by
    rw [mkS]
    by_cases c : i = k
    · subst c
      omega
    · have := mkS_le S R k i (by omega)
      omega
theorem mkS_is (S : Int → Int) (R : List Int) : ∀ k : Nat, mkS S R k = 40001 ∨ ∃ i : Nat, i < k ∧ mkS S R k = dQ S ((prs R).getD i (-1))
  | 0 => Or.inl rfl
  | k + 1 => by
    rw [mkS]
    rcases (show min (mkS S R k) (dQ S ((prs R).getD k (-1))) = mkS S R k ∨ min (mkS S R k) (dQ S ((prs R).getD k (-1))) = dQ S ((prs R).getD k (-1)) by omega) with e | e
    · rw [e]
      rcases mkS_is S R k with q | ⟨i, hi, q⟩
      · exact Or.inl q
      · exact Or.inr ⟨i, by omega, q⟩
    · exact Or.inr ⟨k, by omega, e⟩
theorem prs_mem {R : List Int} {k : Nat} (hk : k < R.length) : (prs R).getD k (-1) ∈ prs R := by
  have hl := prs_len R
  rw [List.getD_eq_getElem?_getD, List.getElem?_eq_getElem (by omega)]
  exact List.getElem_mem _
theorem mkS_room {S : Int → Int} {R : List Int} (hI : Inv S) (h : PR (dQ S) R) : mkS S R R.length = room S R := by
  have hl := prs_len R
  have hle := mkS_le S R R.length
  have hn : 0 < R.length := List.length_pos_iff.mpr h.1.1
  refine rmC_uniq (prs_ne h.1) (fun x hx => ?_) ?_
  · obtain ⟨i, hi, e⟩ := List.mem_iff_getElem.mp hx
    have := hle i (by omega)
    rw [List.getD_eq_getElem?_getD, List.getElem?_eq_getElem hi] at this
    rw [← e]
    exact this
  · rcases mkS_is S R R.length with q | ⟨i, hi, q⟩
    · have a := hle 0 hn
      have b := dQ_bd hI ((prs R).getD 0 (-1))
      omega
    · exact ⟨_, prs_mem hi, q⟩
theorem dQ_in {S : Int → Int} (hI : Inv S) {a b : Int} (ha : 0 ≤ a ∧ a < 7) (hb : 0 ≤ b ∧ b < 7) (h : 0 < dQ S (7 * a + b)) : a < S 0 ∧ b < S 0 := by
  obtain ⟨k, k0, k1, hk⟩ := sumZ_pos hI.2.1.1 h
  have f := hI.2.2 k k0 k1
  have g := hI.1
  have hc : di S k = 0 ∧ fr S k * 7 + tO S k = 7 * a + b := by
    apply Classical.byContradiction
    intro c
    rw [if_neg c] at hk
    omega
  omega
theorem row_edge {S : Int → Int} {R : List Int} (hI : Inv S) (h : PR (dQ S) R) {k : Int} (h0 : 0 ≤ k) (h1 : k < (R.length : Int)) {b : Int} (hb : b = if k + 1 = (R.length : Int) then R.getD 0 (-1) else R.getD (k + 1).toNat (-1)) : (0 ≤ R.getD k.toNat (-1) ∧ R.getD k.toNat (-1) < S 0) ∧ (0 ≤ b ∧ b < S 0) ∧ (0 < debS S (R.getD k.toNat (-1)) b ∧ debS S (R.getD k.toNat (-1)) b ≤ 40000) ∧ mkS S R (k + 1).toNat = min (mkS S R k.toNat) (debS S (R.getD k.toNat (-1)) b) := by
  have hk : k.toNat < R.length := by omega
  have e := prsA_get (R.headD 0) R k.toNat
  have ra := getD_in (z := -1) h.1.2.2.1 hk
  have rb : (0 ≤ b ∧ b < 7) ∧ (prs R).getD k.toNat (-1) = 7 * R.getD k.toNat (-1) + b := by
    unfold prs
    rw [e, if_pos hk, getD_dz (z := -1) hk]
    by_cases c : k + 1 = (R.length : Int)
    · rw [if_pos c] at hb
      rw [if_neg (by omega), row_head h.1.1, hb]
      exact ⟨getD_in h.1.2.2.1 (by omega), rfl⟩
    · rw [if_neg c] at hb
      have hk1 : k.toNat + 1 < R.length := by omega
      rw [if_pos hk1, getD_dz (z := -1) hk1, hb, show (k + 1).toNat = k.toNat + 1 by omega]
      exact ⟨getD_in h.1.2.2.1 hk1, rfl⟩
  have hq := h.2 _ (prs_mem hk)
  rw [rb.2] at hq
  have hin := dQ_in hI ra rb.1 hq
  have hd := debS_dQ hI ra rb.1
  have hbd := debS_bd hI (R.getD k.toNat (-1)) b
  refine ⟨⟨ra.1, hin.1⟩, ⟨rb.1.1, hin.2⟩, ⟨by omega, hbd.2⟩, ?_⟩
  rw [show (k + 1).toNat = k.toNat + 1 by omega, mkS, rb.2, hd]
theorem sav2 {S : Int → Int} {R : List Int} (hI : Inv S) (h : PR (dQ S) R) {w : Int} (hw : 1 ≤ w ∧ w ≤ room S R) : 2 * w ≤ savP S R w := by
  have h2 := PR_len (fun p a b => dQ_diag hI a b) h
  have h3 := savP_ge (amt := w) hI (by omega) hw.2
  have h4 : w * 2 ≤ w * (R.length : Int) := Int.mul_le_mul_of_nonneg_left (by omega) (by omega)
  omega
theorem row_all {S : Int → Int} {j : Int} (hI : Inv S) (hj : 0 ≤ j ∧ j < ((RS S).length : Int)) : PR (dQ S) ((RS S).getD j.toNat []) ∧ 2 ≤ ((RS S).getD j.toNat []).length ∧ ((RS S).getD j.toNat []).length ≤ 7 ∧ (∀ p ∈ ((RS S).getD j.toNat []).tail, ((RS S).getD j.toNat []).headD 0 < p) := by
  have h := RS_get (S := S) hj.1 hj.2
  exact ⟨h, PR_len (fun p a b => dQ_diag hI a b) h, h.1.2.1, RG_first (RS_in hj.1 hj.2)⟩

