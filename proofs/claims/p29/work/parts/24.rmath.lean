/-! the rings that are found: what they are, their rooms, savings, the best one, its discharge -/
theorem candF_mem {ok : Int → Bool} {g : Int → List (List Int)} {x : List Int} : ∀ {m : Nat}, m ≤ 7 → x ∈ candF ok g m → ∃ p : Int, 0 ≤ p ∧ p < 7 ∧ ok p = true ∧ x ∈ g p
  | 0, _, h => by simp [candF] at h
  | m + 1, hm, h => by
    rcases List.mem_append.mp h with h | h
    · split at h
      · rename_i c
        exact ⟨6 - m, by omega, by omega, c, h⟩
      · exact absurd h List.not_mem_nil
    · exact candF_mem (by omega) h
theorem E_congr {d d' : Int → Int} (hd : ∀ q : Int, 0 ≤ q → q < 49 → d q = d' q) : ∀ (n : Nat) (r : List Int), r ≠ [] → (∀ p ∈ r, 0 ≤ p ∧ p < 7) → E d n r = E d' n r
  | 0, _, _, _ => rfl
  | n + 1, r, hr, hv => by
    have hl : 0 ≤ r.getLastD 0 ∧ r.getLastD 0 < 7 := by
      match r, hr with
      | a :: t, _ =>
        rw [List.getLastD_cons, List.getLastD_eq_getLast?]
        cases e : t.getLast? with
        | none => exact hv a List.mem_cons_self
        | some x => exact hv x (List.mem_cons_of_mem _ (List.mem_of_getLast? e))
    have hh : 0 ≤ r.headD 0 ∧ r.headD 0 < 7 := by
      match r, hr with
      | a :: t, _ => exact hv a List.mem_cons_self
    rw [E_succ, E_succ, hd (7 * r.getLastD 0 + r.headD 0) (by omega) (by omega)]
    congr 1
    refine candF_congr 7 (Nat.le_refl _) (fun p h0 h1 => ⟨?_, fun _ => ?_⟩)
    · unfold okE
      rw [hd (7 * r.getLastD 0 + p) (by omega) (by omega)]
    · refine E_congr hd n (r ++ [p]) (by simp) (fun x hx => ?_)
      rcases List.mem_append.mp hx with q | q
      · exact hv x q
      · rw [List.mem_singleton.mp q]
        omega
theorem RG_congr {d d' : Int → Int} (hd : ∀ q : Int, 0 ≤ q → q < 49 → d q = d' q) : RG d = RG d' := by
  refine candF_congr 7 (Nat.le_refl _) (fun p h0 h1 => ⟨rfl, fun _ => E_congr hd 7 [p] (by simp) (fun x hx => ?_)⟩)
  rw [List.mem_singleton.mp hx]
  omega
def ppr : List Int → List Int
  | a :: b :: t => (7 * a + b) :: ppr (b :: t)
  | [_] => []
  | [] => []
theorem prsA_ppr (h : Int) : ∀ (r : List Int), r ≠ [] → prsA h r = ppr r ++ [7 * r.getLastD 0 + h]
  | [], hr => absurd rfl hr
  | [a], _ => rfl
  | a :: b :: t, _ => by
    have ih := prsA_ppr h (b :: t) (by simp)
    rw [prsA, ih, ppr]
    simp only [List.getLastD_cons, List.cons_append]
theorem ppr_snoc (p : Int) : ∀ (r : List Int), r ≠ [] → ppr (r ++ [p]) = ppr r ++ [7 * r.getLastD 0 + p]
  | [], hr => absurd rfl hr
  | [a], _ => rfl
  | a :: b :: t, _ => by
    have ih := ppr_snoc p (b :: t) (by simp)
    simp only [List.cons_append] at ih ⊢
    rw [ppr, ih, ppr]
    simp only [List.getLastD_cons, List.cons_append]
/-- a ring: a row with a debt above 0 at each place -/
def PR (d : Int → Int) (r : List Int) : Prop := PV r ∧ ∀ q ∈ prs r, 0 < d q
theorem E_mem {d : Int → Int} : ∀ (n : Nat) (r : List Int), PV r → r.length + n = 8 → (∀ q ∈ ppr r, 0 < d q) → ∀ x ∈ E d n r, PR d x
  | 0, _, _, _, _, x, hx => by simp [E] at hx
  | n + 1, r, hv, hn, hp, x, hx => by
    rw [E_succ] at hx
    rcases List.mem_append.mp hx with h | h
    · split at h
      · rename_i c
        rw [List.mem_singleton.mp h]
        refine ⟨hv, fun q hq => ?_⟩
        unfold prs at hq
        rw [prsA_ppr _ _ hv.1] at hq
        rcases List.mem_append.mp hq with w | w
        · exact hp q w
        · rw [List.mem_singleton.mp w]
          exact c
      · exact absurd h List.not_mem_nil
    · obtain ⟨p, h0, h1, hok, h2⟩ := candF_mem (Nat.le_refl _) h
      have c := of_decide_eq_true hok
      match n, hn, h2 with
      | 0, _, h2 => simp [E] at h2
      | n + 1, hn, h2 =>
        refine E_mem (n + 1) (r ++ [p]) (PV_snoc hv (by omega) h0 h1 c.2.1) (by simp; omega) (fun q hq => ?_) x h2
        rw [ppr_snoc p r hv.1] at hq
        rcases List.mem_append.mp hq with w | w
        · exact hp q w
        · rw [List.mem_singleton.mp w]
          exact c.2.2
theorem PV_one {p : Int} (h0 : 0 ≤ p) (h1 : p < 7) : PV [p] := ⟨by simp, by simp, fun x hx => by rw [List.mem_singleton.mp hx]; exact ⟨h0, h1⟩, by simp⟩
theorem RG_mem {d : Int → Int} {x : List Int} (hx : x ∈ RG d) : PR d x := by
  obtain ⟨p, h0, h1, -, h2⟩ := candF_mem (Nat.le_refl _) hx
  exact E_mem 7 [p] (PV_one h0 h1) rfl (fun q hq => by simp [ppr] at hq) x h2
theorem RG_get {d : Int → Int} {i : Int} (h0 : 0 ≤ i) (h1 : i < ((RG d).length : Nat)) : PR d ((RG d).getD i.toNat []) := by
  rw [List.getD_eq_getElem?_getD, List.getElem?_eq_getElem (by omega)]
  exact RG_mem (List.getElem_mem _)
theorem prsA_div (h : Int) (h0 : 0 ≤ h) (h1 : h < 7) : ∀ (r : List Int), (∀ p ∈ r, 0 ≤ p ∧ p < 7) → (prsA h r).map (fun q => q / 7) = r
  | [], _ => rfl
  | [a], _ => by
    simp only [prsA, List.map_cons, List.map_nil]
    rw [show (7 * a + h) / 7 = a by omega]
  | a :: b :: t, hv => by
    have hb := hv b (List.mem_cons_of_mem _ List.mem_cons_self)
    have ih := prsA_div h h0 h1 (b :: t) (fun x hx => hv x (List.mem_cons_of_mem _ hx))
    rw [prsA, List.map_cons, ih, show (7 * a + b) / 7 = a by omega]
theorem nodup_of_map {f : Int → Int} : ∀ {l : List Int}, (l.map f).Nodup → l.Nodup
  | [], _ => List.nodup_nil
  | a :: t, h => by
    rw [List.map_cons, List.nodup_cons] at h
    exact List.nodup_cons.mpr ⟨fun q => h.1 (List.mem_map.mpr ⟨a, q, rfl⟩), nodup_of_map h.2⟩
theorem prs_nd {r : List Int} (h : PV r) : (prs r).Nodup := by
  have := head_in h
  refine nodup_of_map (f := fun q => q / 7) ?_
  unfold prs
  rw [prsA_div _ this.1 this.2 r h.2.2.1]
  exact h.2.2.2
theorem prsA_in (h : Int) (h0 : 0 ≤ h) (h1 : h < 7) : ∀ (r : List Int), (∀ p ∈ r, 0 ≤ p ∧ p < 7) → ∀ q ∈ prsA h r, 0 ≤ q ∧ q < 49
  | [], _, q, hq => by simp [prsA] at hq
  | [a], hv, q, hq => by
    have := hv a List.mem_cons_self
    simp [prsA] at hq
    omega
  | a :: b :: t, hv, q, hq => by
    have ha := hv a List.mem_cons_self
    have hb := hv b (List.mem_cons_of_mem _ List.mem_cons_self)
    rw [prsA] at hq
    rcases List.mem_cons.mp hq with e | hq
    · omega
    · exact prsA_in h h0 h1 (b :: t) (fun x hx => hv x (List.mem_cons_of_mem _ hx)) q hq
theorem prs_in {r : List Int} (h : PV r) : ∀ q ∈ prs r, 0 ≤ q ∧ q < 49 := by
  have := head_in h
  exact prsA_in _ this.1 this.2 r h.2.2.1
theorem prs_len (r : List Int) : (prs r).length = r.length := prsA_len _ r
theorem dQ_diag {S : Int → Int} (h : Inv S) {p : Int} (h0 : 0 ≤ p) (h1 : p < 7) : dQ S (7 * p + p) = 0 := by
  have e : dQ S (7 * p + p) = sumZ (fun _ => 0) (S 1) := sumZ_congr (fun k a b => if_neg (by
    have f := h.2.2 k a b
    have g := h.1
    omega))
  have := sumZ_bd (f := fun _ => (0 : Int)) (a := 0) (b := 0) h.2.1.1 (fun _ _ _ => ⟨Int.le_refl _, Int.le_refl _⟩)
  omega
def RS (S : Int → Int) : List (List Int) := RG (dQ S)
theorem RS_len {S : Int → Int} (h : Inv S) : (RS S).length ≤ 2365 := RG_len _ (fun _ h0 h1 => dQ_diag h h0 h1)
/-- what 'find' leaves -/
def Fnd (S X F Nx f : Int → Int) (z : Int) : Prop := Db S X F Nx ∧ Rws f z (RS S)
/-- the least of these debts -/
def rmC (d : Int → Int) : List Int → Int
  | [] => 0
  | q :: t => t.foldl (fun m x => min m (d x)) (d q)
def room (S : Int → Int) (r : List Int) : Int := rmC (dQ S) (prs r)
def savP (S : Int → Int) (r : List Int) (amt : Int) : Int := sumL (fun q => cQ S q amt) (prs r)
def sav (S : Int → Int) (r : List Int) : Int := savP S r (room S r)
theorem fm_le {d : Int → Int} : ∀ (t : List Int) (m : Int), t.foldl (fun m x => min m (d x)) m ≤ m ∧ ∀ x ∈ t, t.foldl (fun m x => min m (d x)) m ≤ d x
  | [], m => ⟨Int.le_refl _, fun x h => by simp at h⟩
  | a :: t, m => by
    have ih := fm_le (d := d) t (min m (d a))
    rw [List.foldl_cons]
    refine ⟨by omega, fun x hx => ?_⟩
    rcases List.mem_cons.mp hx with rfl | hx
    · omega
    · exact ih.2 x hx
theorem fm_mem {d : Int → Int} : ∀ (t : List Int) (m : Int), t.foldl (fun m x => min m (d x)) m = m ∨ ∃ x ∈ t, t.foldl (fun m x => min m (d x)) m = d x
  | [], m => Or.inl rfl
  | a :: t, m => by
    rw [List.foldl_cons]
    rcases fm_mem (d := d) t (min m (d a)) with e | ⟨x, hx, e⟩
    · rcases (show min m (d a) = m ∨ min m (d a) = d a by omega) with c | c
      · exact Or.inl (e.trans c)
      · exact Or.inr ⟨a, List.mem_cons_self, e.trans c⟩
    · exact Or.inr ⟨x, List.mem_cons_of_mem _ hx, e⟩
theorem rmC_le {d : Int → Int} {l : List Int} : ∀ x ∈ l, rmC d l ≤ d x := by
  match l with
  | [] => intro x h; simp at h
  | q :: t =>
    intro x hx
    have := fm_le (d := d) t (d q)
    rcases List.mem_cons.mp hx with rfl | hx
    · exact this.1
    · exact this.2 x hx
theorem rmC_mem {d : Int → Int} {l : List Int} (h : l ≠ []) : ∃ x ∈ l, rmC d l = d x := by
  match l, h with
  | q :: t, _ =>
    rcases fm_mem (d := d) t (d q) with e | ⟨x, hx, e⟩
    · exact ⟨q, List.mem_cons_self, e⟩
    · exact ⟨x, List.mem_cons_of_mem _ hx, e⟩
theorem rmC_uniq {d : Int → Int} {l : List Int} {m : Int} (h : l ≠ []) (h1 : ∀ x ∈ l, m ≤ d x) (h2 : ∃ x ∈ l, m = d x) : m = rmC d l := by
  obtain ⟨x, hx, e⟩ := h2
  obtain ⟨y, hy, e2⟩ := rmC_mem (d := d) h
  have a := rmC_le (d := d) x hx
  have b := h1 y hy
  omega
theorem prs_ne {r : List Int} (h : PV r) : prs r ≠ [] := fun e => by
  have := prs_len r
  rw [e] at this
  exact h.1 (List.length_eq_zero_iff.mp this.symm)
theorem room_bd {S : Int → Int} {r : List Int} (hI : Inv S) (h : PR (dQ S) r) : 0 < room S r ∧ room S r ≤ 40000 := by
  obtain ⟨x, hx, e⟩ := rmC_mem (d := dQ S) (prs_ne h.1)
  have := h.2 x hx
  have := dQ_bd hI x
  unfold room
  omega
theorem cQ_bd {S : Int → Int} (hI : Inv S) (q : Int) {amt : Int} (h0 : 0 ≤ amt) : 0 ≤ cQ S q amt ∧ cQ S q amt ≤ amt * 9 := gcR_bd 9 amt h0 (fun k => (bQ_bd hI q k).1)
theorem sumL_bd {f : Int → Int} {B : Int} : ∀ (l : List Int), (∀ k ∈ l, 0 ≤ f k ∧ f k ≤ B) → 0 ≤ sumL f l ∧ sumL f l ≤ B * l.length
  | [], _ => by simp [sumL]
  | k :: t, h => by
    have h1 := h k List.mem_cons_self
    have h2 := sumL_bd t (fun x hx => h x (List.mem_cons_of_mem _ hx))
    rw [sumL, List.length_cons, show ((t.length + 1 : Nat) : Int) = (t.length : Int) + 1 by omega, Int.mul_add]
    omega
theorem savP_bd {S : Int → Int} (hI : Inv S) {r : List Int} (hr : r.length ≤ 7) {amt : Int} (h0 : 0 ≤ amt) (h1 : amt ≤ 40000) : 0 ≤ savP S r amt ∧ savP S r amt ≤ 2520000 := by
  have := sumL_bd (f := fun q => cQ S q amt) (B := 360000) (prs r) (fun q _ => by
    have := cQ_bd hI q h0
    omega)
  rw [prs_len] at this
  unfold savP
  omega
theorem gcR_pos {B : Int → Int} : ∀ (r : Nat) (left : Int), 0 < left → (∀ k, 0 ≤ B k) → (∃ k : Int, 1 ≤ k ∧ k ≤ r ∧ 0 < B k) → 0 < gcR B r left
  | 0, left, _, _, h => by
    obtain ⟨k, h0, h1, _⟩ := h
    omega
  | r + 1, left, h0, hB, h => by
    have hb := hB (r + 1)
    rw [gcR]
    by_cases c : 0 < B (r + 1)
    · have h2 : 0 < min left (B (r + 1)) * ((r : Int) + 1) := Int.mul_pos (by omega) (by omega)
      have h3 := (gcR_bd (B := B) r (left - min left (B (r + 1))) (by omega) hB).1
      omega
    · have e : min left (B (r + 1)) = 0 := by omega
      rw [e, Int.zero_mul, show left - 0 = left by omega]
      obtain ⟨k, g0, g1, g2⟩ := h
      have := gcR_pos (B := B) r left h0 hB ⟨k, g0, by
        by_cases q : k = r + 1
        · rw [q] at g2; omega
        · omega, g2⟩
      omega
theorem sumZ_pos {f : Int → Int} {n : Int} (hn : 0 ≤ n) (h : 0 < sumZ f n) : ∃ k : Int, 0 ≤ k ∧ k < n ∧ 0 < f k := by
  apply Classical.byContradiction
  intro c
  have key : ∀ m : Nat, (m : Int) ≤ n → sumN f m ≤ 0 := by
    intro m
    induction m with
    | zero => intro _; simp [sumN]
    | succ m ih =>
      intro hm
      have h1 := ih (by omega)
      have h2 : f m ≤ 0 := by
        apply Classical.byContradiction
        intro q
        exact c ⟨m, by omega, by omega, by omega⟩
      rw [sumN]
      omega
  have := key n.toNat (by omega)
  unfold sumZ at h
  omega
theorem sumN_nn {f : Int → Int} : ∀ (n : Nat), (∀ k : Int, 0 ≤ k → k < n → 0 ≤ f k) → 0 ≤ sumN f n
  | 0, _ => by simp [sumN]
  | n + 1, h => by
    have h1 := sumN_nn n (fun k a b => h k a (by omega))
    have h2 := h n (by omega) (by omega)
    rw [sumN]
    omega
theorem sumZ_nn {f : Int → Int} {n : Int} (h : ∀ k : Int, 0 ≤ k → k < n → 0 ≤ f k) : 0 ≤ sumZ f n := sumN_nn _ (fun k a b => h k a (by omega))
theorem sumZ_ge {f : Int → Int} {n k : Int} (hf : ∀ j : Int, 0 ≤ j → j < n → 0 ≤ f j) (h0 : 0 ≤ k) (h1 : k < n) : f k ≤ sumZ f n := by
  have e := sumZ_one (f := f) (g := fun j => if j = k then 0 else f j) h0 h1 (fun j _ hj => (if_neg hj).symm)
  rw [if_pos rfl] at e
  have := sumZ_nn (f := fun j => if j = k then 0 else f j) (n := n) (fun j a b => by
    have := hf j a b
    split <;> omega)
  omega
theorem cQ_pos {S : Int → Int} (hI : Inv S) {q amt : Int} (hq : 0 < dQ S q) (h0 : 0 < amt) : 0 < cQ S q amt := by
  obtain ⟨k, k0, k1, hk⟩ := sumZ_pos hI.2.1.1 hq
  have f := hI.2.2 k k0 k1
  have hc : di S k = 0 ∧ fr S k * 7 + tO S k = q := by
    apply Classical.byContradiction
    intro c
    rw [if_neg c] at hk
    omega
  rw [if_pos hc] at hk
  refine gcR_pos 9 amt h0 (fun r => (bQ_bd hI q r).1) ⟨ra S k, f.2.2.2.2.1.1, f.2.2.2.2.1.2, ?_⟩
  have := sumZ_ge (f := fun j => if di S j = 0 ∧ fr S j * 7 + tO S j = q ∧ ra S j = ra S k then am S j else 0) (n := S 1) (fun j a b => by
    have := (hI.2.2 j a b).2.2.2.1
    split <;> omega) k0 k1
  rw [if_pos ⟨hc.1, hc.2, rfl⟩] at this
  unfold bQ
  omega
theorem sav_pos {S : Int → Int} {r : List Int} (hI : Inv S) (h : PR (dQ S) r) : 0 < sav S r := by
  have hb := room_bd hI h
  unfold sav savP
  match e : prs r, prs_ne h.1 with
  | q :: t, _ =>
    have hq := h.2 q (by rw [e]; exact List.mem_cons_self)
    have h1 := cQ_pos hI hq hb.1
    have h2 := sumL_nn (f := fun q => cQ S q (room S r)) (l := t) (fun x _ => (cQ_bd hI x (by omega)).1)
    rw [sumL]
    omega
/-- the best of a list of rings: its number and its saving -/
def bs (sv : List Int → Int) : List (List Int) → Int → Int → Int → Int × Int
  | [], _, b, m => (b, m)
  | r :: t, i, b, m => if m < sv r then bs sv t (i + 1) i (sv r) else bs sv t (i + 1) b m
def best (S : Int → Int) : Int := (bs (sav S) (RS S) 0 (-1) 0).1
def bestV (S : Int → Int) : Int := (bs (sav S) (RS S) 0 (-1) 0).2
theorem bs_rng (sv : List Int → Int) : ∀ (L : List (List Int)) (i b m : Int), -1 ≤ b → b < i → -1 ≤ (bs sv L i b m).1 ∧ (bs sv L i b m).1 < i + L.length
  | [], i, b, m, h0, h1 => by simp [bs]; omega
  | r :: t, i, b, m, h0, h1 => by
    rw [bs, List.length_cons]
    split
    · have := bs_rng sv t (i + 1) i (sv r) (by omega) (by omega)
      omega
    · have := bs_rng sv t (i + 1) b m (by omega) (by omega)
      omega
theorem best_rng (S : Int → Int) : -1 ≤ best S ∧ best S < (((RS S).length : Nat) : Int) := by
  have := bs_rng (sav S) (RS S) 0 (-1) 0 (by omega) (by omega)
  unfold best
  omega
/-- what stands of the best: its saving is that of the ring of that number -/
theorem bs_val (sv : List Int → Int) (L0 : List (List Int)) : ∀ (L : List (List Int)) (i b m : Int), 0 ≤ i → L0.drop i.toNat = L → (b = -1 ∧ m = 0 ∨ 0 ≤ b ∧ m = sv (L0.getD b.toNat [])) → ((bs sv L i b m).1 = -1 ∧ (bs sv L i b m).2 = 0) ∨ (0 ≤ (bs sv L i b m).1 ∧ (bs sv L i b m).2 = sv (L0.getD (bs sv L i b m).1.toNat []))
  | [], i, b, m, _, _, h => h
  | r :: t, i, b, m, hi, hd, h => by
    have hl : i.toNat < L0.length := by
      apply Classical.byContradiction
      intro q
      rw [List.drop_eq_nil_of_le (by omega)] at hd
      cases hd
    rw [List.drop_eq_getElem_cons hl] at hd
    have e1 : L0[i.toNat] = r := by injection hd
    have e2 : L0.drop (i.toNat + 1) = t := by injection hd
    rw [bs]
    split
    · refine bs_val sv L0 t (i + 1) i (sv r) (by omega) (by rw [show (i + 1).toNat = i.toNat + 1 by omega]; exact e2) (Or.inr ⟨hi, ?_⟩)
      rw [List.getD_eq_getElem?_getD, List.getElem?_eq_getElem hl, e1]
      rfl
    · exact bs_val sv L0 t (i + 1) b m (by omega) (by rw [show (i + 1).toNat = i.toNat + 1 by omega]; exact e2) h
theorem best_val (S : Int → Int) : (best S = -1 ∧ bestV S = 0) ∨ (0 ≤ best S ∧ bestV S = sav S ((RS S).getD (best S).toNat [])) := bs_val (sav S) (RS S) (RS S) 0 (-1) 0 (by omega) rfl (Or.inl ⟨rfl, rfl⟩)
/-- the releases of a discharge, one debt after the other -/
def disK (S : Int → Int) : List Int → Int → (Int → Int)
  | [], _ => S
  | q :: t, amt => disK (relK S (chR S q 9) amt) t amt
def disR (S : Int → Int) (r : List Int) (amt : Int) : Int → Int := st (disK S (prs r) amt) 4 (disK S (prs r) amt 4 + 1)
def disB (S : Int → Int) : Int → Int := let r := (RS S).getD (best S).toNat []; disR S r (room S r)
/-- discharging all: at most n discharges; with their number -/
def disA : Nat → (Int → Int) → Int → (Int → Int) × Int
  | 0, S, c => (S, c)
  | n + 1, S, c => if best S = -1 then (S, c) else disA n (disB S) (c + 1)
