/-! p29: states that are made; the rows of the rings -/
theorem iniS_at (j : Int) : iniS j = if j = 0 then 4 else 0 := rfl
theorem Good_ini : Good iniS := by
  have e1 : iniS 1 = 0 := rfl
  refine ⟨⟨by rw [iniS_at, if_pos rfl]; omega, by rw [e1]; omega, fun k a b => ?_⟩, fun k a b => Or.inl ?_, fun k a b => ?_, ?_, ?_⟩
  · rw [e1] at b; omega
  · show iniS (9 + 8 * k) = 0
    rw [iniS_at, if_neg (by omega)]
  · rw [e1] at b; omega
  · rw [e1]; rfl
  · rw [e1]; rfl
theorem rstP_at (S : Int → Int) (p j : Int) : rstP S p j = if j = 4 then 0 else if j = 3 then 0 else if j = 2 then 0 else if j = 1 then 0 else if j = 0 then p else S j := rfl
theorem Good_rst {S : Int → Int} {p : Int} (hz : Inz S) (hp : 2 ≤ p ∧ p ≤ 7) : Good (rstP S p) := by
  have e0 : rstP S p 0 = p := rfl
  have e1 : rstP S p 1 = 0 := rfl
  refine ⟨⟨by rw [e0]; exact hp, by rw [e1]; omega, fun k a b => ?_⟩, fun k a b => ?_, fun k a b => ?_, ?_, ?_⟩
  · rw [e1] at b; omega
  · have e : di (rstP S p) k = di S k := by
      show rstP S p (9 + 8 * k) = S (9 + 8 * k)
      rw [rstP_at, if_neg (by omega), if_neg (by omega), if_neg (by omega), if_neg (by omega), if_neg (by omega)]
    rw [e]
    exact hz k a b
  · rw [e1] at b; omega
  · rw [e1]; rfl
  · rw [e1]; rfl
theorem addP_at {S : Int → Int} {a e x y : Int} (hn : 0 ≤ S 1) (j : Int) : addP S a e x y j = if j = 1 then S 1 + 1 else if j = 9 + 8 * S 1 then 0 else if j = 12 + 8 * S 1 then 0 else if j = 11 + 8 * S 1 then 0 else if j = 10 + 8 * S 1 then x else if j = 8 + 8 * S 1 then y else if j = 7 + 8 * S 1 then x else if j = 6 + 8 * S 1 then e else if j = 5 + 8 * S 1 then a else S j := by
  unfold addP
  have e1 : (st (st (st (st (st (st (st (st S (5 + 8 * S 1) a) (6 + 8 * S 1) e) (7 + 8 * S 1) x) (8 + 8 * S 1) y) (10 + 8 * S 1) x) (11 + 8 * S 1) 0) (12 + 8 * S 1) 0) (9 + 8 * S 1) 0) 1 = S 1 := by
    rw [st_n (by omega), st_n (by omega), st_n (by omega), st_n (by omega), st_n (by omega), st_n (by omega), st_n (by omega), st_n (by omega)]
  show st _ 1 (_ + 1) j = _
  rw [e1]
  rfl
theorem addP_o {S : Int → Int} {a e x y : Int} (hn : 0 ≤ S 1) {j : Int} (h1 : j ≠ 1) (h : j < 5 + 8 * S 1 ∨ 12 + 8 * S 1 < j) : addP S a e x y j = S j := by
  rw [addP_at hn, if_neg h1, if_neg (by omega), if_neg (by omega), if_neg (by omega), if_neg (by omega), if_neg (by omega), if_neg (by omega), if_neg (by omega), if_neg (by omega)]
theorem sumZ_up {f g : Int → Int} {n : Int} (hn : 0 ≤ n) (h : ∀ k : Int, 0 ≤ k → k < n → f k = g k) : sumZ f (n + 1) = sumZ g n + f n := by
  rw [sumZ_s _ hn, sumZ_congr h]
theorem Good_add {S : Int → Int} {a e x y : Int} (g : Good S) (hn : S 1 < 40) (ha : 0 ≤ a ∧ a < S 0) (he : 0 ≤ e ∧ e < S 0) (hne : a ≠ e) (hx : 1 ≤ x ∧ x ≤ 1000) (hy : 1 ≤ y ∧ y ≤ 9) : Good (addP S a e x y) ∧ addP S a e x y 0 = S 0 ∧ addP S a e x y 1 = S 1 + 1 ∧ addP S a e x y 4 = S 4 := by
  obtain ⟨hI, hz, hg, h2, h3⟩ := g
  have h0 := hI.2.1.1
  have e0 : addP S a e x y 0 = S 0 := addP_o h0 (by omega) (by omega)
  have e1 : addP S a e x y 1 = S 1 + 1 := by rw [addP_at h0, if_pos rfl]
  have e2 : addP S a e x y 2 = S 2 := addP_o h0 (by omega) (by omega)
  have e3 : addP S a e x y 3 = S 3 := addP_o h0 (by omega) (by omega)
  have e4 : addP S a e x y 4 = S 4 := addP_o h0 (by omega) (by omega)
  have eo : ∀ k : Int, 0 ≤ k → k ≠ S 1 → fr (addP S a e x y) k = fr S k ∧ tO (addP S a e x y) k = tO S k ∧ am (addP S a e x y) k = am S k ∧ ra (addP S a e x y) k = ra S k ∧ di (addP S a e x y) k = di S k ∧ fi (addP S a e x y) k = fi S k ∧ pa (addP S a e x y) k = pa S k ∧ re (addP S a e x y) k = re S k := fun k h hk => ⟨addP_o h0 (by omega) (by omega), addP_o h0 (by omega) (by omega), addP_o h0 (by omega) (by omega), addP_o h0 (by omega) (by omega), addP_o h0 (by omega) (by omega), addP_o h0 (by omega) (by omega), addP_o h0 (by omega) (by omega), addP_o h0 (by omega) (by omega)⟩
  have en : fr (addP S a e x y) (S 1) = a ∧ tO (addP S a e x y) (S 1) = e ∧ am (addP S a e x y) (S 1) = x ∧ ra (addP S a e x y) (S 1) = y ∧ di (addP S a e x y) (S 1) = 0 ∧ fi (addP S a e x y) (S 1) = x ∧ pa (addP S a e x y) (S 1) = 0 ∧ re (addP S a e x y) (S 1) = 0 := by
    refine ⟨?_, ?_, ?_, ?_, ?_, ?_, ?_, ?_⟩
    · show addP S a e x y (5 + 8 * S 1) = _
      rw [addP_at h0, if_neg (by omega), if_neg (by omega), if_neg (by omega), if_neg (by omega), if_neg (by omega), if_neg (by omega), if_neg (by omega), if_neg (by omega), if_pos rfl]
    · show addP S a e x y (6 + 8 * S 1) = _
      rw [addP_at h0, if_neg (by omega), if_neg (by omega), if_neg (by omega), if_neg (by omega), if_neg (by omega), if_neg (by omega), if_neg (by omega), if_pos rfl]
    · show addP S a e x y (7 + 8 * S 1) = _
      rw [addP_at h0, if_neg (by omega), if_neg (by omega), if_neg (by omega), if_neg (by omega), if_neg (by omega), if_neg (by omega), if_pos rfl]
    · show addP S a e x y (8 + 8 * S 1) = _
      rw [addP_at h0, if_neg (by omega), if_neg (by omega), if_neg (by omega), if_neg (by omega), if_neg (by omega), if_pos rfl]
    · show addP S a e x y (9 + 8 * S 1) = _
      rw [addP_at h0, if_neg (by omega), if_pos rfl]
    · show addP S a e x y (10 + 8 * S 1) = _
      rw [addP_at h0, if_neg (by omega), if_neg (by omega), if_neg (by omega), if_neg (by omega), if_pos rfl]
    · show addP S a e x y (11 + 8 * S 1) = _
      rw [addP_at h0, if_neg (by omega), if_neg (by omega), if_neg (by omega), if_pos rfl]
    · show addP S a e x y (12 + 8 * S 1) = _
      rw [addP_at h0, if_neg (by omega), if_neg (by omega), if_pos rfl]
  refine ⟨⟨⟨by rw [e0]; exact hI.1, by rw [e1]; omega, fun k h h1 => ?_⟩, fun k h h1 => ?_, fun k h h1 => ?_, ?_, ?_⟩, e0, e1, e4⟩
  · rw [e1] at h1
    by_cases c : k = S 1
    · subst c
      rw [en.1, en.2.1, en.2.2.1, en.2.2.2.1, en.2.2.2.2.1, e0]
      exact ⟨ha, he, hne, by omega, hy, Or.inl rfl⟩
    · have f := eo k h c
      rw [f.1, f.2.1, f.2.2.1, f.2.2.2.1, f.2.2.2.2.1, e0]
      exact hI.2.2 k h (by omega)
  · by_cases c : k = S 1
    · subst c
      exact Or.inl en.2.2.2.2.1
    · rw [(eo k h c).2.2.2.2.1]
      exact hz k h h1
  · rw [e1] at h1
    by_cases c : k = S 1
    · subst c
      rw [en.2.2.1, en.2.2.2.2.2.1, en.2.2.2.2.2.2.1, en.2.2.2.2.2.2.2]
      omega
    · have f := eo k h c
      rw [f.2.2.1, f.2.2.2.2.2.1, f.2.2.2.2.2.2.1, f.2.2.2.2.2.2.2]
      exact hg k h (by omega)
  · rw [e1, e2, sumZ_up (g := pa S) h0 (fun k h h1 => (eo k h (by omega)).2.2.2.2.2.2.1), en.2.2.2.2.2.2.1, h2]
    omega
  · rw [e1, e3, sumZ_up (g := re S) h0 (fun k h h1 => (eo k h (by omega)).2.2.2.2.2.2.2), en.2.2.2.2.2.2.2, h3]
    omega
theorem Good_di {S : Int → Int} {i w : Int} (g : Good S) (hi : 0 ≤ i) (hw : w = 0 ∨ w = 1) : Good (st S (9 + 8 * i) w) := by
  obtain ⟨hI, hz, hg, h2, h3⟩ := g
  have hI2 := Inv_di (w := w) hI hi hw
  have e1 : st S (9 + 8 * i) w 1 = S 1 := st_n (by omega)
  have e2 : st S (9 + 8 * i) w 2 = S 2 := st_n (by omega)
  have e3 : st S (9 + 8 * i) w 3 = S 3 := st_n (by omega)
  have ef : ∀ k : Int, am (st S (9 + 8 * i) w) k = am S k ∧ fi (st S (9 + 8 * i) w) k = fi S k ∧ pa (st S (9 + 8 * i) w) k = pa S k ∧ re (st S (9 + 8 * i) w) k = re S k := fun k => ⟨st_n (by omega), st_n (by omega), st_n (by omega), st_n (by omega)⟩
  refine ⟨hI2, fun k a b => ?_, fun k a b => ?_, ?_, ?_⟩
  · by_cases c : k = i
    · subst c
      have : di (st S (9 + 8 * k) w) k = w := st_s _ _ _
      rw [this]
      exact hw
    · have : di (st S (9 + 8 * i) w) k = di S k := st_n (by omega)
      rw [this]
      exact hz k a b
  · rw [e1] at b
    have f := ef k
    rw [f.1, f.2.1, f.2.2.1, f.2.2.2]
    exact hg k a b
  · rw [e1, e2, h2]
    exact sumZ_congr (fun k _ _ => (ef k).2.2.1.symm)
  · rw [e1, e3, h3]
    exact sumZ_congr (fun k _ _ => (ef k).2.2.2.symm)
/-! rows: their first party is the least -/
theorem candF_mem7 {ok : Int → Bool} {g : Int → List (List Int)} {x : List Int} : ∀ {m : Nat}, m ≤ 7 → x ∈ candF ok g m → ∃ p : Int, 7 - (m : Int) ≤ p ∧ p < 7 ∧ ok p = true ∧ x ∈ g p
  | 0, _, h => by simp [candF] at h
  | m + 1, hm, h => by
    rcases List.mem_append.mp h with h | h
    · split at h
      · rename_i c
        exact ⟨6 - m, by omega, by omega, c, h⟩
      · exact absurd h List.not_mem_nil
    · obtain ⟨p, h0, h1, h2⟩ := candF_mem7 (by omega) h
      exact ⟨p, by omega, h1, h2⟩
theorem E_first {d : Int → Int} : ∀ (n : Nat) (r : List Int), r ≠ [] → (∀ p ∈ r.tail, r.headD 0 < p) → ∀ x ∈ E d n r, (∃ t, x = r ++ t) ∧ ∀ p ∈ x.tail, x.headD 0 < p
  | 0, _, _, _, x, hx => by simp [E] at hx
  | n + 1, r, hr, hv, x, hx => by
    rw [E_succ] at hx
    rcases List.mem_append.mp hx with h | h
    · split at h
      · rw [List.mem_singleton.mp h]
        exact ⟨⟨[], (List.append_nil r).symm⟩, hv⟩
      · exact absurd h List.not_mem_nil
    · obtain ⟨p, h0, h1, hok, h2⟩ := candF_mem (Nat.le_refl _) h
      have c := of_decide_eq_true hok
      have ih := E_first n (r ++ [p]) (by simp) (fun z hz => by
        rw [head_snoc p hr]
        match r, hr with
        | a :: t, _ =>
          rw [List.cons_append, List.tail_cons] at hz
          rcases List.mem_append.mp hz with q | q
          · exact hv z q
          · rw [List.mem_singleton.mp q]
            exact c.1) x h2
      obtain ⟨⟨t, ht⟩, h3⟩ := ih
      exact ⟨⟨[p] ++ t, by rw [ht, List.append_assoc]⟩, h3⟩
theorem RG_first {d : Int → Int} {x : List Int} (hx : x ∈ RG d) : ∀ p ∈ x.tail, x.headD 0 < p := by
  obtain ⟨p, h0, h1, -, h2⟩ := candF_mem (Nat.le_refl _) hx
  exact (E_first 7 [p] (by simp) (fun z hz => by simp at hz) x h2).2
theorem PR_len {d : Int → Int} {r : List Int} (hd : ∀ p : Int, 0 ≤ p → p < 7 → d (7 * p + p) = 0) (h : PR d r) : 2 ≤ r.length := by
  match r, h.1.1 with
  | [a], _ =>
    have ha := h.1.2.2.1 a List.mem_cons_self
    have := h.2 (7 * a + a) (by
      show 7 * a + a ∈ prsA ([a].headD 0) [a]
      rw [List.headD_cons, prsA]
      exact List.mem_cons_self)
    rw [hd a ha.1 ha.2] at this
    omega
  | a :: b :: t, _ => simp
/-! rows: their order -/
def lt7 (x y : List Int) : Prop := ∃ k : Nat, k < 7 ∧ (∀ i : Nat, i < k → x.getD i (-1) = y.getD i (-1)) ∧ x.getD k (-1) < y.getD k (-1)
theorem candF_pw {R : List Int → List Int → Prop} {ok : Int → Bool} {g : Int → List (List Int)} (h1 : ∀ p : Int, 0 ≤ p → p < 7 → ok p = true → (g p).Pairwise R) (h2 : ∀ p p' : Int, 0 ≤ p → p < p' → p' < 7 → ∀ x ∈ g p, ∀ y ∈ g p', R x y) : ∀ m : Nat, m ≤ 7 → (candF ok g m).Pairwise R
  | 0, _ => List.Pairwise.nil
  | m + 1, hm => by
    rw [candF, List.pairwise_append]
    refine ⟨?_, candF_pw h1 h2 m (by omega), fun x hx y hy => ?_⟩
    · split
      · rename_i c
        exact h1 _ (by omega) (by omega) c
      · exact List.Pairwise.nil
    · split at hx
      · obtain ⟨p, q0, q1, -, q2⟩ := candF_mem7 (by omega) hy
        exact h2 _ p (by omega) (by omega) q1 x hx y q2
      · exact absurd hx List.not_mem_nil
theorem getD_pre {r t : List Int} {i : Nat} (h : i < r.length) : (r ++ t).getD i (-1) = r.getD i (-1) := by
  rw [List.getD_eq_getElem?_getD, List.getD_eq_getElem?_getD, List.getElem?_append_left h]
theorem getD_at {r t : List Int} {p : Int} : (r ++ [p] ++ t).getD r.length (-1) = p := by
  rw [List.append_assoc, List.getD_eq_getElem?_getD, List.getElem?_append_right (Nat.le_refl _), Nat.sub_self]
  rfl
theorem E_pw {d : Int → Int} : ∀ (n : Nat) (r : List Int), r ≠ [] → (∀ p ∈ r, 0 ≤ p ∧ p < 7) → (∀ p ∈ r.tail, r.headD 0 < p) → r.length + n = 8 → (E d n r).Pairwise lt7
  | 0, _, _, _, _, _ => List.Pairwise.nil
  | n + 1, r, hr, hv, hh, hn => by
    have hsn : ∀ p : Int, r.headD 0 < p → ∀ z ∈ (r ++ [p]).tail, (r ++ [p]).headD 0 < z := fun p hp z hz => by
      rw [head_snoc p hr]
      match r, hr with
      | a :: t, _ =>
        rw [List.cons_append, List.tail_cons] at hz
        rcases List.mem_append.mp hz with q | q
        · exact hh z q
        · rw [List.mem_singleton.mp q]
          exact hp
    have hpre : ∀ p : Int, ∀ x ∈ E d n (r ++ [p]), r.headD 0 < p → ∃ t, x = r ++ [p] ++ t := fun p x hx hp => (E_first n (r ++ [p]) (by simp) (hsn p hp) x hx).1
    have hE0 : n = 0 → ∀ p : Int, E d n (r ++ [p]) = [] := fun e p => by rw [e]; rfl
    rw [E_succ, List.pairwise_append]
    refine ⟨?_, ?_, fun x hx y hy => ?_⟩
    · split
      · exact List.pairwise_singleton _ _
      · exact List.Pairwise.nil
    · have key : (candF (okE d r) (fun p => if r.headD 0 < p then E d n (r ++ [p]) else []) 7).Pairwise lt7 := candF_pw (fun p h0 h1 hok => by
        show (if r.headD 0 < p then E d n (r ++ [p]) else []).Pairwise lt7
        split
        · rename_i c
          have c2 := of_decide_eq_true hok
          exact E_pw n (r ++ [p]) (by simp) (fun z hz => by
            rcases List.mem_append.mp hz with q | q
            · exact hv z q
            · rw [List.mem_singleton.mp q]
              exact ⟨h0, h1⟩) (hsn p c) (by simp; omega)
        · exact List.Pairwise.nil) (fun p p' h0 h1 h2 x hx y hy => by
        have hx : x ∈ (if r.headD 0 < p then E d n (r ++ [p]) else []) := hx
        have hy : y ∈ (if r.headD 0 < p' then E d n (r ++ [p']) else []) := hy
        split at hx
        · split at hy
          · rename_i c1 c2
            obtain ⟨t, rfl⟩ := hpre p x hx c1
            obtain ⟨t', rfl⟩ := hpre p' y hy c2
            have hn0 : n ≠ 0 := fun e => by rw [hE0 e] at hx; exact absurd hx List.not_mem_nil
            refine ⟨r.length, by omega, fun i hi => ?_, ?_⟩
            · rw [List.append_assoc, List.append_assoc, getD_pre hi, getD_pre hi]
            · rw [getD_at, getD_at]
              exact h1
          · exact absurd hy List.not_mem_nil
        · exact absurd hx List.not_mem_nil) 7 (Nat.le_refl _)
      rw [candF_congr (ok' := okE d r) (g' := fun p => if r.headD 0 < p then E d n (r ++ [p]) else []) 7 (Nat.le_refl _) (fun p _ _ => ⟨rfl, fun hok => by
        have c := of_decide_eq_true hok
        show _ = if r.headD 0 < p then E d n (r ++ [p]) else []
        rw [if_pos c.1]⟩)]
      exact key
    · split at hx
      · rw [List.mem_singleton.mp hx]
        obtain ⟨p, q0, q1, hok, q2⟩ := candF_mem (Nat.le_refl _) hy
        have c := of_decide_eq_true hok
        obtain ⟨t, rfl⟩ := hpre p y q2 c.1
        have hn0 : n ≠ 0 := fun e => by rw [hE0 e] at q2; exact absurd q2 List.not_mem_nil
        refine ⟨r.length, by omega, fun i hi => ?_, ?_⟩
        · rw [List.append_assoc, getD_pre hi]
        · rw [getD_at, getD_out (Nat.le_refl _)]
          omega
      · exact absurd hx List.not_mem_nil
theorem RG_pw (d : Int → Int) : (RG d).Pairwise lt7 := by
  refine candF_pw (fun p h0 h1 _ => E_pw 7 [p] (by simp) (fun z hz => by rw [List.mem_singleton.mp hz]; exact ⟨h0, h1⟩) (fun z hz => by simp at hz) rfl) (fun p p' h0 h1 h2 x hx y hy => ?_) 7 (Nat.le_refl _)
  obtain ⟨t, rfl⟩ := (E_first 7 [p] (by simp) (fun z hz => by simp at hz) x hx).1
  obtain ⟨t', rfl⟩ := (E_first 7 [p'] (by simp) (fun z hz => by simp at hz) y hy).1
  exact ⟨0, by omega, fun i hi => absurd hi (Nat.not_lt_zero _), h1⟩
theorem RS_next {S : Int → Int} {j : Int} (h0 : 0 ≤ j) (h1 : j + 1 < ((RS S).length : Int)) : lt7 ((RS S).getD j.toNat []) ((RS S).getD (j + 1).toNat []) := by
  have h := List.pairwise_iff_getElem.mp (RG_pw (dQ S)) j.toNat (j + 1).toNat (show j.toNat < (RS S).length by omega) (show (j + 1).toNat < (RS S).length by omega) (by omega)
  rw [List.getD_eq_getElem?_getD, List.getD_eq_getElem?_getD, List.getElem?_eq_getElem (by omega), List.getElem?_eq_getElem (by omega)]
  exact h
/-! fewer debts: fewer rings -/
theorem candF_less {ok ok' : Int → Bool} {g g' : Int → List (List Int)} (h : ∀ p : Int, ok' p = true → ok p = true ∧ (g' p).length ≤ (g p).length) : ∀ m : Nat, (candF ok' g' m).length ≤ (candF ok g m).length
  | 0 => Nat.le_refl _
  | m + 1 => by
    have ih := candF_less h m
    rw [candF, candF, List.length_append, List.length_append]
    by_cases c : ok' (6 - m) = true
    · have := h _ c
      rw [if_pos c, if_pos this.1]
      omega
    · rw [if_neg c]
      simp only [List.length_nil]
      omega
theorem E_less {d d' : Int → Int} (h : ∀ q, 0 < d' q → 0 < d q) : ∀ (n : Nat) (r : List Int), (E d' n r).length ≤ (E d n r).length
  | 0, _ => Nat.le_refl _
  | n + 1, r => by
    have hc := candF_less (ok := okE d r) (ok' := okE d' r) (g := fun p => E d n (r ++ [p])) (g' := fun p => E d' n (r ++ [p])) (fun p hp => by
      have c := of_decide_eq_true hp
      exact ⟨decide_eq_true ⟨c.1, c.2.1, h _ c.2.2⟩, E_less h n (r ++ [p])⟩) 7
    rw [E_succ, E_succ, List.length_append, List.length_append]
    by_cases c : 0 < d' (7 * r.getLastD 0 + r.headD 0)
    · rw [if_pos c, if_pos (h _ c)]
      omega
    · rw [if_neg c]
      simp only [List.length_nil]
      omega
theorem RG_less {d d' : Int → Int} (h : ∀ q, 0 < d' q → 0 < d q) : (RG d').length ≤ (RG d).length := candF_less (fun p _ => ⟨rfl, E_less h 7 [p]⟩) 7
theorem dis_less {S : Int → Int} {i : Int} (hI : Inv S) (hi : 0 ≤ i) : (RS (st S (9 + 8 * i) 1)).length ≤ (RS S).length := by
  refine RG_less (fun q hq => ?_)
  have e1 : st S (9 + 8 * i) 1 1 = S 1 := st_n (by omega)
  have ef : ∀ k : Int, fr (st S (9 + 8 * i) 1) k = fr S k ∧ tO (st S (9 + 8 * i) 1) k = tO S k ∧ am (st S (9 + 8 * i) 1) k = am S k := fun k => ⟨st_n (by omega), st_n (by omega), st_n (by omega)⟩
  unfold dQ at hq ⊢
  rw [e1] at hq
  obtain ⟨k, k0, k1, hk⟩ := sumZ_pos hI.2.1.1 hq
  rw [(ef k).1, (ef k).2.1, (ef k).2.2] at hk
  have hc : di (st S (9 + 8 * i) 1) k = 0 ∧ fr S k * 7 + tO S k = q := by
    apply Classical.byContradiction
    intro c
    rw [if_neg c] at hk
    omega
  rw [if_pos hc] at hk
  have hd : di S k = 0 := by
    have h1 := hc.1
    by_cases c : k = i
    · subst c
      have : di (st S (9 + 8 * k) 1) k = 1 := st_s _ _ _
      omega
    · have : di (st S (9 + 8 * i) 1) k = di S k := st_n (by omega)
      omega
  have := sumZ_ge (f := fun j => if di S j = 0 ∧ fr S j * 7 + tO S j = q then am S j else 0) (n := S 1) (fun j a b => by
    have := (hI.2.2 j a b).2.2.2.1
    split <;> omega) k0 k1
  rw [if_pos ⟨hd, hc.2⟩] at this
  omega
/-! the best ring -/
theorem bs_pos (sv : List Int → Int) : ∀ (L : List (List Int)) (i b m : Int), 0 ≤ i → 0 ≤ b → (bs sv L i b m).1 ≠ -1
  | [], _, b, _, _, hb => by
    show b ≠ -1
    omega
  | r :: t, i, b, m, hi, hb => by
    rw [bs]
    split
    · exact bs_pos sv t (i + 1) i (sv r) (by omega) hi
    · exact bs_pos sv t (i + 1) b m (by omega) hb
theorem best_no {S : Int → Int} (h : (RS S).length = 0) : best S = -1 := by
  have := best_rng S
  omega
theorem best_is {S : Int → Int} (hI : Inv S) (h : 0 < (RS S).length) : 0 ≤ best S := by
  have hr := best_rng S
  have h2 : best S ≠ -1 := by
    unfold best
    match e : RS S with
    | [] => rw [e] at h; exact absurd h (Nat.lt_irrefl 0)
    | r :: t =>
      have hp := sav_pos hI (RG_mem (d := dQ S) (x := r) (by
        show r ∈ RS S
        rw [e]
        exact List.mem_cons_self))
      rw [bs, if_pos hp]
      exact bs_pos _ t _ _ _ (by omega) (by omega)
  omega
