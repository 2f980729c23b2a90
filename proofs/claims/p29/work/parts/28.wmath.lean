/-! rings without a promise -/
theorem E_pos {d d' : Int → Int} (hd : ∀ q : Int, 0 ≤ q → q < 49 → (0 < d q ↔ 0 < d' q)) : ∀ (n : Nat) (r : List Int), r ≠ [] → (∀ p ∈ r, 0 ≤ p ∧ p < 7) → E d n r = E d' n r
  | 0, _, _, _ => rfl
  | n + 1, r, hr, hv => by
    have hl : 0 ≤ r.getLastD 0 ∧ r.getLastD 0 < 7 := by
      match r, hr with
      | a :: t, _ =>
        rw [List.getLastD_cons, List.getLastD_eq_getLast?]
        cases e : t.getLast? with
        | none => exact hv a List.mem_cons_self
        | some x => exact hv x (List.mem_cons_of_mem _ (List.mem_of_getLast? e))
    have hh : 0 ≤ r.headD 0 ∧ r.headD 0 < 7 := by
      match r, hr with
      | a :: t, _ => exact hv a List.mem_cons_self
    have e1 := hd (7 * r.getLastD 0 + r.headD 0) (by omega) (by omega)
    rw [E_succ, E_succ]
    have e2 : (if 0 < d (7 * r.getLastD 0 + r.headD 0) then [r] else []) = (if 0 < d' (7 * r.getLastD 0 + r.headD 0) then [r] else []) := by
      by_cases c : 0 < d (7 * r.getLastD 0 + r.headD 0)
      · rw [if_pos c, if_pos (e1.mp c)]
      · rw [if_neg c, if_neg (fun q => c (e1.mpr q))]
    rw [e2]
    congr 1
    refine candF_congr 7 (Nat.le_refl _) (fun p h0 h1 => ⟨?_, fun _ => ?_⟩)
    · unfold okE
      have e3 := hd (7 * r.getLastD 0 + p) (by omega) (by omega)
      exact decide_eq_decide.mpr ⟨fun q => ⟨q.1, q.2.1, e3.mp q.2.2⟩, fun q => ⟨q.1, q.2.1, e3.mpr q.2.2⟩⟩
    · refine E_pos hd n (r ++ [p]) (by simp) (fun x hx => ?_)
      rcases List.mem_append.mp hx with q | q
      · exact hv x q
      · rw [List.mem_singleton.mp q]
        omega
theorem RG_pos {d d' : Int → Int} (hd : ∀ q : Int, 0 ≤ q → q < 49 → (0 < d q ↔ 0 < d' q)) : RG d = RG d' := by
  refine candF_congr 7 (Nat.le_refl _) (fun p h0 h1 => ⟨rfl, fun _ => E_pos hd 7 [p] (by simp) (fun x hx => ?_)⟩)
  rw [List.mem_singleton.mp hx]
  omega
theorem E_pre {d : Int → Int} : ∀ (n : Nat) (r : List Int), r ≠ [] → ∀ x ∈ E d n r, ∀ q ∈ ppr r, q ∈ prs x
  | 0, _, _, x, hx, _, _ => by simp [E] at hx
  | n + 1, r, hr, x, hx, q, hq => by
    rw [E_succ] at hx
    rcases List.mem_append.mp hx with h | h
    · split at h
      · rw [List.mem_singleton.mp h]
        unfold prs
        rw [prsA_ppr _ _ hr]
        exact List.mem_append_left _ hq
      · exact absurd h List.not_mem_nil
    · obtain ⟨p, h0, h1, -, h2⟩ := candF_mem (Nat.le_refl _) h
      exact E_pre n (r ++ [p]) (by simp) x h2 q (by rw [ppr_snoc p r hr]; exact List.mem_append_left _ hq)
theorem candF_filter (f : List Int → Bool) {ok : Int → Bool} {g : Int → List (List Int)} : ∀ m : Nat, (candF ok g m).filter f = candF ok (fun p => (g p).filter f) m
  | 0 => rfl
  | m + 1 => by
    rw [candF, candF, List.filter_append, candF_filter f m]
    congr 1
    split <;> simp
theorem candF_em {ok ok' : Int → Bool} {g g' : Int → List (List Int)} : ∀ (m : Nat), m ≤ 7 → (∀ p : Int, 0 ≤ p → p < 7 → (if ok p = true then g p else []) = (if ok' p = true then g' p else [])) → candF ok g m = candF ok' g' m
  | 0, _, _ => rfl
  | m + 1, hm, h => by
    rw [candF, candF, candF_em m (by omega) h, h (6 - m) (by omega) (by omega)]
/-- rings of the debts without the debt q0 are those that don't go through it -/
theorem E_without {d d' : Int → Int} {q0 : Int} (h0 : ¬ 0 < d' q0) (hd : ∀ q : Int, q ≠ q0 → (0 < d q ↔ 0 < d' q)) : ∀ (n : Nat) (r : List Int), r ≠ [] → q0 ∉ ppr r → E d' n r = (E d n r).filter (fun x => decide (q0 ∉ prs x))
  | 0, _, _, _ => rfl
  | n + 1, r, hr, hq => by
    rw [E_succ, E_succ, List.filter_append, candF_filter]
    congr 1
    · by_cases c : 7 * r.getLastD 0 + r.headD 0 = q0
      · rw [if_neg (by rw [c]; exact h0)]
        split
        · have : ¬ (q0 ∉ prs r) := fun z => z (by
            unfold prs
            rw [prsA_ppr _ _ hr]
            exact List.mem_append_right _ (by rw [c]; exact List.mem_singleton_self _))
          simp [this]
        · rfl
      · have e := hd _ c
        by_cases f : 0 < d (7 * r.getLastD 0 + r.headD 0)
        · rw [if_pos f, if_pos (e.mp f)]
          have : q0 ∉ prs r := fun z => by
            unfold prs at z
            rw [prsA_ppr _ _ hr] at z
            rcases List.mem_append.mp z with w | w
            · exact hq w
            · exact c (List.mem_singleton.mp w).symm
          simp [this]
        · rw [if_neg f, if_neg (fun z => f (e.mpr z))]
          rfl
    · refine candF_em 7 (Nat.le_refl _) (fun p p0 p1 => ?_)
      by_cases c : 7 * r.getLastD 0 + p = q0
      · have e1 : okE d' r p = false := decide_eq_false (fun z => h0 (by rw [← c]; exact z.2.2))
        rw [e1, if_neg (by decide)]
        split
        · refine (List.filter_eq_nil_iff.mpr (fun x hx => ?_)).symm
          have := E_pre n (r ++ [p]) (by simp) x hx q0 (by rw [ppr_snoc p r hr, c]; exact List.mem_append_right _ (List.mem_singleton_self _))
          simp [this]
        · rfl
      · have e := hd _ c
        have e1 : okE d' r p = okE d r p := decide_eq_decide.mpr ⟨fun z => ⟨z.1, z.2.1, e.mpr z.2.2⟩, fun z => ⟨z.1, z.2.1, e.mp z.2.2⟩⟩
        rw [e1]
        split
        · refine E_without h0 hd n (r ++ [p]) (by simp) (fun z => ?_)
          rw [ppr_snoc p r hr] at z
          rcases List.mem_append.mp z with w | w
          · exact hq w
          · exact c (List.mem_singleton.mp w).symm
        · rfl
theorem RG_without {d d' : Int → Int} {q0 : Int} (h0 : ¬ 0 < d' q0) (hd : ∀ q : Int, q ≠ q0 → (0 < d q ↔ 0 < d' q)) : RG d' = (RG d).filter (fun x => decide (q0 ∉ prs x)) := by
  unfold RG
  rw [candF_filter]
  exact candF_em 7 (Nat.le_refl _) (fun p p0 p1 => by
    rw [if_pos rfl, if_pos rfl]
    exact E_without h0 hd 7 [p] (by simp) (by simp [ppr]))
/-- how many of the rings go through a debt -/
def thr (q : Int) : List (List Int) → Int
  | [] => 0
  | r :: t => (if q ∈ prs r then 1 else 0) + thr q t
theorem thr_filter (q : Int) : ∀ L : List (List Int), (((L.filter (fun x => decide (q ∉ prs x))).length : Nat) : Int) = ((L.length : Nat) : Int) - thr q L
  | [] => rfl
  | r :: t => by
    have ih := thr_filter q t
    rw [List.filter_cons, thr, List.length_cons]
    by_cases c : q ∈ prs r
    · rw [if_neg (by simp [c]), if_pos c]
      omega
    · rw [if_pos (by simp [c]), if_neg c, List.length_cons]
      omega
theorem thr_bd (q : Int) : ∀ L : List (List Int), 0 ≤ thr q L ∧ thr q L ≤ ((L.length : Nat) : Int)
  | [] => by simp [thr]
  | r :: t => by
    have ih := thr_bd q t
    rw [thr, List.length_cons]
    split <;> omega
/-- the debts without the promise w -/
def dW (S : Int → Int) (w q : Int) : Int := sumZ (fun k => if k ≠ w ∧ di S k = 0 ∧ fr S k * 7 + tO S k = q then am S k else 0) (S 1)
theorem dW_eq {S : Int → Int} {w : Int} (h0 : 0 ≤ w) (h1 : w < S 1) (q : Int) : dW S w q = dQ S q - (if di S w = 0 ∧ fr S w * 7 + tO S w = q then am S w else 0) := by
  have := sumZ_one (f := fun k => if di S k = 0 ∧ fr S k * 7 + tO S k = q then am S k else 0) (g := fun k => if k ≠ w ∧ di S k = 0 ∧ fr S k * 7 + tO S k = q then am S k else 0) h0 h1 (fun j _ hj => by
    by_cases c : di S j = 0 ∧ fr S j * 7 + tO S j = q
    · rw [if_pos c, if_pos ⟨hj, c⟩]
    · rw [if_neg c, if_neg (fun z => c z.2)])
  rw [if_neg (fun z : w ≠ w ∧ _ => z.1 rfl)] at this
  unfold dW dQ
  omega
theorem dW_none {S : Int → Int} {w : Int} (h : w < 0 ∨ S 1 ≤ w) (q : Int) : dW S w q = dQ S q := by
  refine sumZ_congr (fun k h0 h1 => ?_)
  by_cases c : di S k = 0 ∧ fr S k * 7 + tO S k = q
  · rw [if_pos ⟨by omega, c⟩, if_pos c]
  · rw [if_neg (fun z => c z.2), if_neg c]
/-- how many rings there would be without the promise w -/
def rwO (S : Int → Int) (w : Int) : Int := (((RG (dW S w)).length : Nat) : Int)
theorem rwO_no {S : Int → Int} {w : Int} (h0 : 0 ≤ w) (h1 : w < S 1) (h : ¬ (0 < am S w ∧ di S w = 0)) (hI : Inv S) : rwO S w = (((RS S).length : Nat) : Int) := by
  have f := hI.2.2 w h0 h1
  unfold rwO RS
  rw [RG_congr (d := dW S w) (d' := dQ S) (fun q _ _ => by rw [dW_eq h0 h1]; split <;> omega)]
theorem rwO_more {S : Int → Int} {w : Int} (hI : Inv S) (h0 : 0 ≤ w) (h1 : w < S 1) (h : am S w < dQ S (fr S w * 7 + tO S w)) : rwO S w = (((RS S).length : Nat) : Int) := by
  have f := hI.2.2 w h0 h1
  unfold rwO RS
  rw [RG_pos (d := dW S w) (d' := dQ S) (fun q _ _ => by
    rw [dW_eq h0 h1]
    by_cases c : di S w = 0 ∧ fr S w * 7 + tO S w = q
    · rw [if_pos c, ← c.2]
      omega
    · rw [if_neg c]
      omega)]
theorem rwO_alone {S : Int → Int} {w : Int} (h0 : 0 ≤ w) (h1 : w < S 1) (hd : di S w = 0) (h : am S w = dQ S (fr S w * 7 + tO S w)) : rwO S w = (((RS S).length : Nat) : Int) - thr (fr S w * 7 + tO S w) (RS S) := by
  unfold rwO RS
  rw [← thr_filter, RG_without (d := dQ S) (d' := dW S w) (q0 := fr S w * 7 + tO S w) (by rw [dW_eq h0 h1, if_pos ⟨hd, rfl⟩]; omega) (fun q hq => by rw [dW_eq h0 h1, if_neg (fun z => hq z.2.symm)]; omega)]
theorem am_le_dQ {S : Int → Int} (hI : Inv S) {w : Int} (h0 : 0 ≤ w) (h1 : w < S 1) (hd : di S w = 0) : am S w ≤ dQ S (fr S w * 7 + tO S w) := by
  have := sumZ_ge (f := fun k => if di S k = 0 ∧ fr S k * 7 + tO S k = fr S w * 7 + tO S w then am S k else 0) (n := S 1) (fun j a b => by
    have := (hI.2.2 j a b).2.2.2.1
    split <;> omega) h0 h1
  rw [if_pos ⟨hd, rfl⟩] at this
  exact this
/-- the key promise: among those from i on, with the best so far -/
def key (S : Int → Int) : Nat → Int → Int → Int → Int
  | 0, _, b, _ => b
  | n + 1, i, b, m => if 0 < am S i ∧ di S i = 0 then (if b = -1 ∨ rwO S i < m then key S n (i + 1) i (rwO S i) else key S n (i + 1) b m) else key S n (i + 1) b m
def keyS (S : Int → Int) : Int := key S (S 1).toNat 0 (-1) 0
theorem rwO_bd {S : Int → Int} (hI : Inv S) (w : Int) : 0 ≤ rwO S w ∧ rwO S w ≤ 2365 := by
  have hd : ∀ p : Int, 0 ≤ p → p < 7 → dW S w (7 * p + p) = 0 := fun p a b => by
    have e : dW S w (7 * p + p) = sumZ (fun _ => 0) (S 1) := sumZ_congr (fun k c e => if_neg (by
      have f := hI.2.2 k c e
      have g := hI.1
      omega))
    have := sumZ_bd (f := fun _ => (0 : Int)) (a := 0) (b := 0) hI.2.1.1 (fun _ _ _ => ⟨Int.le_refl _, Int.le_refl _⟩)
    omega
  have := RG_len _ hd
  unfold rwO
  omega
