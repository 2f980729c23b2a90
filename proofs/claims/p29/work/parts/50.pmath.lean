/-! p29: what holds of every state; payments, releases, discharges; sums -/
def Good (S : Int → Int) : Prop := Inv S ∧ Inz S ∧ (∀ k : Int, 0 ≤ k → k < S 1 → fi S k = am S k + pa S k + re S k ∧ 0 ≤ pa S k ∧ 0 ≤ re S k ∧ fi S k ≤ 1000) ∧ S 2 = sumZ (pa S) (S 1) ∧ S 3 = sumZ (re S) (S 1)
theorem Good_eq {S T : Int → Int} (h : ∀ j : Int, 0 ≤ j → j < 325 → j ≠ 4 → T j = S j) (g : Good S) : Good T := by
  obtain ⟨hI, hz, hg, h2, h3⟩ := g
  have e0 := h 0 (by omega) (by omega) (by omega)
  have e1 := h 1 (by omega) (by omega) (by omega)
  have e2 := h 2 (by omega) (by omega) (by omega)
  have e3 := h 3 (by omega) (by omega) (by omega)
  have hn := hI.2.1
  have ef : ∀ k : Int, 0 ≤ k → k < 40 → fr T k = fr S k ∧ tO T k = tO S k ∧ am T k = am S k ∧ ra T k = ra S k ∧ di T k = di S k ∧ fi T k = fi S k ∧ pa T k = pa S k ∧ re T k = re S k := fun k a b => ⟨h _ (by omega) (by omega) (by omega), h _ (by omega) (by omega) (by omega), h _ (by omega) (by omega) (by omega), h _ (by omega) (by omega) (by omega), h _ (by omega) (by omega) (by omega), h _ (by omega) (by omega) (by omega), h _ (by omega) (by omega) (by omega), h _ (by omega) (by omega) (by omega)⟩
  refine ⟨⟨by rw [e0]; exact hI.1, by rw [e1]; exact hn, fun k a b => ?_⟩, fun k a b => ?_, fun k a b => ?_, ?_, ?_⟩
  · rw [e1] at b
    have f := ef k a (by omega)
    rw [f.1, f.2.1, f.2.2.1, f.2.2.2.1, f.2.2.2.2.1, e0]
    exact hI.2.2 k a b
  · rw [(ef k a b).2.2.2.2.1]
    exact hz k a b
  · rw [e1] at b
    have f := ef k a (by omega)
    rw [f.2.2.1, f.2.2.2.2.2.1, f.2.2.2.2.2.2.1, f.2.2.2.2.2.2.2]
    exact hg k a b
  · rw [e1, e2, h2]
    exact sumZ_congr (fun k a b => (ef k a (by omega)).2.2.2.2.2.2.1.symm)
  · rw [e1, e3, h3]
    exact sumZ_congr (fun k a b => (ef k a (by omega)).2.2.2.2.2.2.2.symm)
theorem sumZ_at {f g : Int → Int} {i n v : Int} (h0 : 0 ≤ i) (h1 : i < n) (h : ∀ k : Int, 0 ≤ k → k < n → f k = g k + (if k = i then v else 0)) : sumZ f n = sumZ g n + v := by
  rw [sumZ_congr h, sumZ_one (f := fun k => g k + (if k = i then v else 0)) (g := g) h0 h1 (fun j _ hj => by rw [if_neg hj]; omega), if_pos rfl]
  omega
theorem sumZ_zero {n : Int} (hn : 0 ≤ n) : sumZ (fun _ => (0 : Int)) n = 0 := by
  have := sumZ_bd (f := fun _ => (0 : Int)) (a := 0) (b := 0) hn (fun _ _ _ => ⟨Int.le_refl _, Int.le_refl _⟩)
  omega
theorem sumZ_pick {x n v : Int} (h0 : 0 ≤ x) (h1 : x < n) : sumZ (fun b => if x = b then v else 0) n = v := by
  rw [sumZ_at (g := fun _ => 0) (i := x) (v := v) h0 h1 (fun k _ _ => by
    by_cases c : k = x
    · rw [if_pos c.symm, if_pos c]; omega
    · rw [if_neg (fun e => c e.symm), if_neg c]; omega), sumZ_zero (by omega)]
  omega
theorem sumZ_sub (f g : Int → Int) (n : Int) : sumZ (fun k => f k - g k) n = sumZ f n - sumZ g n := by
  have := sumZ_add (fun k => f k - g k) g n
  rw [sumZ_congr (g := f) (fun k _ _ => show f k - g k + g k = f k by omega)] at this
  omega
theorem sumZ_swapN (f : Int → Int → Int) (n : Int) : ∀ m : Nat, sumN (fun b => sumZ (fun k => f b k) n) m = sumZ (fun k => sumN (fun b => f b k) m) n
  | 0 => by
    by_cases hn : 0 ≤ n
    · exact (sumZ_zero hn).symm
    · unfold sumZ
      rw [show n.toNat = 0 by omega]
      rfl
  | m + 1 => by
    rw [sumN, sumZ_swapN f n m, sumZ_add]
    exact sumZ_congr (fun k _ _ => rfl)
theorem sumZ_swap (f : Int → Int → Int) (n m : Int) : sumZ (fun b => sumZ (fun k => f b k) n) m = sumZ (fun k => sumZ (fun b => f b k) m) n := sumZ_swapN f n m.toNat
/-! what a payment or a release changes -/
def Ch (S T : Int → Int) (i dp dr : Int) : Prop := T 0 = S 0 ∧ T 1 = S 1 ∧ T 2 = S 2 + dp ∧ T 3 = S 3 + dr ∧ ∀ k : Int, 0 ≤ k → fr T k = fr S k ∧ tO T k = tO S k ∧ ra T k = ra S k ∧ di T k = di S k ∧ fi T k = fi S k ∧ am T k = am S k - (if k = i then dp + dr else 0) ∧ pa T k = pa S k + (if k = i then dp else 0) ∧ re T k = re S k + (if k = i then dr else 0)
theorem Ch_good {S T : Int → Int} {i dp dr : Int} (h : Ch S T i dp dr) (g : Good S) (h0 : 0 ≤ i) (h1 : i < S 1) (hp : 0 ≤ dp) (hr : 0 ≤ dr) (ha : dp + dr ≤ am S i) : Good T := by
  obtain ⟨hI, hz, hg, h2, h3⟩ := g
  obtain ⟨e0, e1, e2, e3, ef⟩ := h
  refine ⟨⟨by rw [e0]; exact hI.1, by rw [e1]; exact hI.2.1, fun k a b => ?_⟩, fun k a b => ?_, fun k a b => ?_, ?_, ?_⟩
  · rw [e1] at b
    have f := ef k a
    have q := hI.2.2 k a b
    rw [f.1, f.2.1, f.2.2.1, f.2.2.2.1, f.2.2.2.2.2.1, e0]
    refine ⟨q.1, q.2.1, q.2.2.1, ?_, q.2.2.2.2⟩
    by_cases c : k = i
    · subst c
      rw [if_pos rfl]
      omega
    · rw [if_neg c]
      omega
  · rw [(ef k a).2.2.2.1]
    exact hz k a b
  · rw [e1] at b
    have f := ef k a
    have q := hg k a b
    rw [f.2.2.2.2.1, f.2.2.2.2.2.1, f.2.2.2.2.2.2.1, f.2.2.2.2.2.2.2]
    split <;> omega
  · rw [e1, e2, h2]
    exact (sumZ_at h0 h1 (fun k a _ => (ef k a).2.2.2.2.2.2.1)).symm
  · rw [e1, e3, h3]
    exact (sumZ_at h0 h1 (fun k a _ => (ef k a).2.2.2.2.2.2.2)).symm
theorem Ch_net {S T : Int → Int} {i dp dr : Int} (h : Ch S T i dp dr) (h0 : 0 ≤ i) (h1 : i < S 1) (p : Int) : netS T p = netS S p + ((if fr S i = p then dp + dr else 0) - (if tO S i = p then dp + dr else 0)) := by
  obtain ⟨e0, e1, e2, e3, ef⟩ := h
  unfold netS
  rw [e1]
  refine sumZ_at h0 h1 (fun k a _ => ?_)
  have f := ef k a
  unfold netF
  rw [f.1, f.2.1, f.2.2.2.2.2.1]
  by_cases c : k = i
  · subst c
    rw [if_pos rfl, if_pos rfl]
    split <;> split <;> omega
  · rw [if_neg c, if_neg c]
    split <;> split <;> omega
theorem Ch_cos {S T : Int → Int} {i dp dr : Int} (h : Ch S T i dp dr) (h0 : 0 ≤ i) (h1 : i < S 1) : cosS T = cosS S - (dp + dr) * ra S i := by
  obtain ⟨e0, e1, e2, e3, ef⟩ := h
  unfold cosS
  rw [e1]
  have := sumZ_at (f := fun k => am T k * ra T k) (g := fun k => am S k * ra S k) (i := i) (n := S 1) (v := -((dp + dr) * ra S i)) h0 h1 (fun k a _ => by
    have f := ef k a
    show am T k * ra T k = am S k * ra S k + _
    rw [f.2.2.1, f.2.2.2.2.2.1]
    by_cases c : k = i
    · subst c
      rw [if_pos rfl, if_pos rfl, Int.sub_mul]
      omega
    · rw [if_neg c, if_neg c, show am S k - 0 = am S k by omega]
      omega)
  omega
theorem payP_at {S : Int → Int} {i x : Int} (hi : 0 ≤ i) (j : Int) : payP S i x j = if j = 2 then S 2 + x else if j = 11 + 8 * i then pa S i + x else if j = 7 + 8 * i then am S i - x else S j := by
  unfold payP
  have e1 : pa (st S (7 + 8 * i) (am S i - x)) i = pa S i := st_n (by omega)
  have e2 : st (st S (7 + 8 * i) (am S i - x)) (11 + 8 * i) (pa S i + x) 2 = S 2 := by rw [st_n (by omega), st_n (by omega)]
  rw [e1, e2]
  rfl
theorem relP_at {S : Int → Int} {i x : Int} (hi : 0 ≤ i) (j : Int) : relP S i x j = if j = 3 then S 3 + x else if j = 12 + 8 * i then re S i + x else if j = 7 + 8 * i then am S i - x else S j := by
  unfold relP
  have e1 : re (st S (7 + 8 * i) (am S i - x)) i = re S i := st_n (by omega)
  have e2 : st (st S (7 + 8 * i) (am S i - x)) (12 + 8 * i) (re S i + x) 3 = S 3 := by rw [st_n (by omega), st_n (by omega)]
  rw [e1, e2]
  rfl
theorem Ch_pay {S : Int → Int} {i x : Int} (hi : 0 ≤ i) : Ch S (payP S i x) i x 0 := by
  have o : ∀ j : Int, j ≠ 2 → j ≠ 11 + 8 * i → j ≠ 7 + 8 * i → payP S i x j = S j := fun j a b c => by rw [payP_at hi, if_neg a, if_neg b, if_neg c]
  refine ⟨o _ (by omega) (by omega) (by omega), o _ (by omega) (by omega) (by omega), by rw [payP_at hi, if_pos rfl], by rw [o 3 (by omega) (by omega) (by omega)]; omega, fun k hk => ⟨o _ (by omega) (by omega) (by omega), o _ (by omega) (by omega) (by omega), o _ (by omega) (by omega) (by omega), o _ (by omega) (by omega) (by omega), o _ (by omega) (by omega) (by omega), ?_, ?_, ?_⟩⟩
  · by_cases c : k = i
    · subst c
      show payP S k x (7 + 8 * k) = _
      rw [payP_at hi, if_neg (by omega), if_neg (by omega), if_pos rfl, if_pos rfl]
      omega
    · rw [if_neg c]
      have : am (payP S i x) k = am S k := o _ (by omega) (by omega) (by omega)
      omega
  · by_cases c : k = i
    · subst c
      show payP S k x (11 + 8 * k) = _
      rw [payP_at hi, if_neg (by omega), if_pos rfl, if_pos rfl]
    · rw [if_neg c]
      have : pa (payP S i x) k = pa S k := o _ (by omega) (by omega) (by omega)
      omega
  · have : re (payP S i x) k = re S k := o _ (by omega) (by omega) (by omega)
    rw [this]
    split <;> omega
theorem Ch_rel {S : Int → Int} {i x : Int} (hi : 0 ≤ i) : Ch S (relP S i x) i 0 x := by
  have o : ∀ j : Int, j ≠ 3 → j ≠ 12 + 8 * i → j ≠ 7 + 8 * i → relP S i x j = S j := fun j a b c => by rw [relP_at hi, if_neg a, if_neg b, if_neg c]
  refine ⟨o _ (by omega) (by omega) (by omega), o _ (by omega) (by omega) (by omega), by rw [o 2 (by omega) (by omega) (by omega)]; omega, by rw [relP_at hi, if_pos rfl], fun k hk => ⟨o _ (by omega) (by omega) (by omega), o _ (by omega) (by omega) (by omega), o _ (by omega) (by omega) (by omega), o _ (by omega) (by omega) (by omega), o _ (by omega) (by omega) (by omega), ?_, ?_, ?_⟩⟩
  · by_cases c : k = i
    · subst c
      show relP S k x (7 + 8 * k) = _
      rw [relP_at hi, if_neg (by omega), if_neg (by omega), if_pos rfl, if_pos rfl]
      omega
    · rw [if_neg c]
      have : am (relP S i x) k = am S k := o _ (by omega) (by omega) (by omega)
      omega
  · have : pa (relP S i x) k = pa S k := o _ (by omega) (by omega) (by omega)
    rw [this]
    split <;> omega
  · by_cases c : k = i
    · subst c
      show relP S k x (12 + 8 * k) = _
      rw [relP_at hi, if_neg (by omega), if_pos rfl, if_pos rfl]
    · rw [if_neg c]
      have : re (relP S i x) k = re S k := o _ (by omega) (by omega) (by omega)
      omega
theorem Good_pay {S : Int → Int} {i x : Int} (g : Good S) (h0 : 0 ≤ i) (h1 : i < S 1) (hx : 0 ≤ x) (hx1 : x ≤ am S i) : Good (payP S i x) := Ch_good (Ch_pay h0) g h0 h1 hx (by omega) (by omega)
/-! lists of releases -/
theorem gcL_congr {a r a' r' : Int → Int} : ∀ (l : List Int) (left : Int), (∀ k ∈ l, a k = a' k ∧ r k = r' k) → gcL a r l left = gcL a' r' l left
  | [], _, _ => rfl
  | k :: t, left, h => by
    have h1 := h k List.mem_cons_self
    rw [gcL, gcL, h1.1, h1.2, gcL_congr t _ (fun x hx => h x (List.mem_cons_of_mem _ hx))]
theorem relK_all : ∀ (l : List Int) (S : Int → Int) (a b left : Int), Good S → l.Nodup → 0 ≤ left → (∀ k ∈ l, 0 ≤ k ∧ k < S 1 ∧ fr S k = a ∧ tO S k = b) → Good (relK S l left) ∧ relK S l left 3 = S 3 + min left (sumL (am S) l) ∧ cosS (relK S l left) = cosS S - gcL (am S) (ra S) l left ∧ ∀ p, netS (relK S l left) p = netS S p + ((if a = p then min left (sumL (am S) l) else 0) - (if b = p then min left (sumL (am S) l) else 0))
  | [], S, a, b, left, g, _, h0, _ => by
    rw [relK, sumL, gcL, show min left 0 = 0 by omega]
    refine ⟨g, by omega, by omega, fun p => ?_⟩
    split <;> split <;> omega
  | k :: t, S, a, b, left, g, hn, h0, h => by
    have hk := h k List.mem_cons_self
    have hkd := List.nodup_cons.mp hn
    have hak := (g.1.2.2 k hk.1 hk.2.1).2.2.2.1
    have c := Ch_rel (S := S) (i := k) (x := min left (am S k)) hk.1
    have g1 := Ch_good c g hk.1 hk.2.1 (by omega) (by omega) (by omega)
    have n1 := Ch_net c hk.1 hk.2.1
    have c1 := Ch_cos c hk.1 hk.2.1
    obtain ⟨e0, e1, e2, e3, ef⟩ := c
    have ea : ∀ i ∈ t, am (relP S k (min left (am S k))) i = am S i ∧ ra (relP S k (min left (am S k))) i = ra S i := fun i hi => by
      have f := ef i (h i (List.mem_cons_of_mem _ hi)).1
      rw [f.2.2.2.2.2.1, f.2.2.1, if_neg (fun (e : i = k) => hkd.1 (e ▸ hi))]
      exact ⟨by omega, rfl⟩
    have ih := relK_all t (relP S k (min left (am S k))) a b (left - min left (am S k)) g1 hkd.2 (by omega) (fun i hi => by
      have q := h i (List.mem_cons_of_mem _ hi)
      have f := ef i q.1
      rw [f.1, f.2.1, e1]
      exact q)
    rw [sumL_congr (g := am S) (fun i hi => (ea i hi).1), gcL_congr (a' := am S) (r' := ra S) t _ ea] at ih
    have hs := sumL_nn (f := am S) (l := t) (fun x hx => by
      have q := h x (List.mem_cons_of_mem _ hx)
      exact (g.1.2.2 x q.1 q.2.1).2.2.2.1.1)
    rw [relK, sumL, gcL]
    refine ⟨ih.1, by omega, ?_, fun p => ?_⟩
    · rw [ih.2.2.1, c1]
      rw [show (0 : Int) + min left (am S k) = min left (am S k) by omega]
      omega
    · rw [ih.2.2.2 p, n1 p, hk.2.2.1, hk.2.2.2]
      split <;> split <;> omega
theorem chR_ab {S : Int → Int} (hI : Inv S) {q k : Int} (h : k ∈ chR S q 9) : 0 ≤ k ∧ k < S 1 ∧ fr S k = q / 7 ∧ tO S k = q % 7 := by
  have a := chR_mem h hI.2.1.1
  have f := hI.2.2 k a.2.1 a.2.2.1
  have e := a.1.2.2
  have := hI.1
  exact ⟨a.2.1, a.2.2.1, by omega, by omega⟩
theorem relK_q {S : Int → Int} {q q' left : Int} (hI : Inv S) (hq : q' ≠ q) (h0 : 0 ≤ left) : dQ (relK S (chR S q 9) left) q' = dQ S q' ∧ ∀ amt, 0 ≤ amt → cQ (relK S (chR S q 9) left) q' amt = cQ S q' amt := by
  have hT := relK_Inv (q := q) hI h0
  have hc := relK_ch (left := left) hI hq
  have hge : ∀ k ∈ chR S q 9, 0 ≤ k := fun k hk => (chR_ab hI hk).1
  have ea : ∀ k ∈ chR S q' 9, am (relK S (chR S q 9) left) k = am S k ∧ ra (relK S (chR S q 9) left) k = ra S k := fun k hk => by
    have a := chR_ab hI hk
    refine ⟨relK_am _ _ _ _ hge a.1 (fun hk2 => ?_), ((relK_o _ S left hge).2 k a.1).2.2.1⟩
    have b := chR_ab hI hk2
    omega
  refine ⟨?_, fun amt ha => ?_⟩
  · rw [← chR_sum hT, ← chR_sum hI, hc]
    exact sumL_congr (fun k hk => (ea k hk).1)
  · unfold cQ
    rw [← gcL_chR hT q' 9 amt ha, ← gcL_chR hI q' 9 amt ha, hc]
    exact gcL_congr _ _ ea
theorem disK_all : ∀ (qs : List Int) (S : Int → Int) (amt : Int), Good S → qs.Nodup → 0 ≤ amt → (∀ q ∈ qs, amt ≤ dQ S q) → Good (disK S qs amt) ∧ disK S qs amt 3 = S 3 + amt * qs.length ∧ cosS (disK S qs amt) = cosS S - sumL (fun q => cQ S q amt) qs ∧ ∀ p, netS (disK S qs amt) p = netS S p + (sumL (fun q => if q / 7 = p then amt else 0) qs - sumL (fun q => if q % 7 = p then amt else 0) qs)
  | [], S, amt, g, _, _, _ => by
    rw [disK, sumL, List.length_nil, show amt * ((0 : Nat) : Int) = 0 from Int.mul_zero amt]
    refine ⟨g, by omega, by omega, fun p => ?_⟩
    rw [sumL, sumL]
    omega
  | q :: t, S, amt, g, hn, h0, h => by
    have hkd := List.nodup_cons.mp hn
    have hq := h q List.mem_cons_self
    have r1 := relK_all (chR S q 9) S (q / 7) (q % 7) amt g (chR_nd g.1.2.1.1 9) h0 (fun k hk => chR_ab g.1 hk)
    rw [chR_sum g.1, gcL_chR g.1 q 9 amt h0, show min amt (dQ S q) = amt by omega] at r1
    have hne : ∀ x ∈ t, x ≠ q := fun x hx e => hkd.1 (e ▸ hx)
    have ih := disK_all t (relK S (chR S q 9) amt) amt r1.1 hkd.2 h0 (fun x hx => by
      rw [(relK_q g.1 (hne x hx) h0).1]
      exact h x (List.mem_cons_of_mem _ hx))
    rw [sumL_congr (g := fun q => cQ S q amt) (fun x hx => (relK_q g.1 (hne x hx) h0).2 amt h0)] at ih
    rw [disK, List.length_cons, show ((t.length + 1 : Nat) : Int) = (t.length : Int) + 1 by omega, Int.mul_add, Int.mul_one]
    refine ⟨ih.1, by omega, ?_, fun p => ?_⟩
    · rw [ih.2.2.1, r1.2.2.1, sumL]
      show _ = cosS S - (gcR (bQ S q) 9 amt + _)
      omega
    · rw [ih.2.2.2 p, r1.2.2.2 p, sumL, sumL]
      omega
theorem sumL_map (f g : Int → Int) : ∀ l : List Int, sumL f (l.map g) = sumL (fun x => f (g x)) l
  | [] => rfl
  | a :: t => by rw [List.map_cons, sumL, sumL, sumL_map f g t]
theorem prsA_mod (h : Int) (h0 : 0 ≤ h) (h1 : h < 7) : ∀ (r : List Int), (∀ p ∈ r, 0 ≤ p ∧ p < 7) → r ≠ [] → (prsA h r).map (fun q => q % 7) = r.tail ++ [h]
  | [], _, hr => absurd rfl hr
  | [a], _, _ => by
    simp only [prsA, List.map_cons, List.map_nil, List.tail_cons, List.nil_append]
    rw [show (7 * a + h) % 7 = h by omega]
  | a :: b :: t, hv, _ => by
    have hb := hv b (List.mem_cons_of_mem _ List.mem_cons_self)
    have ih := prsA_mod h h0 h1 (b :: t) (fun x hx => hv x (List.mem_cons_of_mem _ hx)) (by simp)
    rw [prsA, List.map_cons, ih, show (7 * a + b) % 7 = b by omega]
    rfl
theorem prs_flow {r : List Int} (h : PV r) (p amt : Int) : sumL (fun q => if q / 7 = p then amt else 0) (prs r) = sumL (fun q => if q % 7 = p then amt else 0) (prs r) := by
  have hh := head_in h
  have e1 := sumL_map (fun x => if x = p then amt else 0) (fun q => q / 7) (prs r)
  have e2 := sumL_map (fun x => if x = p then amt else 0) (fun q => q % 7) (prs r)
  unfold prs at e1 e2 ⊢
  rw [prsA_div _ hh.1 hh.2 r h.2.2.1] at e1
  rw [prsA_mod _ hh.1 hh.2 r h.2.2.1 h.1] at e2
  rw [← e1, ← e2]
  match r, h.1 with
  | a :: t, _ =>
    rw [List.tail_cons, List.headD_cons, sumL, sumL_app, sumL, sumL]
    omega
theorem dis_all {S : Int → Int} {r : List Int} {amt : Int} (g : Good S) (hr : PR (dQ S) r) (h0 : 0 ≤ amt) (h1 : amt ≤ room S r) : Good (disR S r amt) ∧ disR S r amt 0 = S 0 ∧ disR S r amt 1 = S 1 ∧ disR S r amt 3 = S 3 + amt * r.length ∧ disR S r amt 4 = S 4 + 1 ∧ cosS (disR S r amt) = cosS S - savP S r amt ∧ ∀ p, netS (disR S r amt) p = netS S p := by
  have hle : ∀ q ∈ prs r, amt ≤ dQ S q := fun q hq => by
    have := rmC_le (d := dQ S) q hq
    unfold room at h1
    omega
  have a := disK_all (prs r) S amt g (prs_nd hr.1) h0 hle
  have o := (disK_o (prs r) S amt g.1 h0).1
  rw [prs_len] at a
  unfold disR
  have e : ∀ j : Int, j ≠ 4 → st (disK S (prs r) amt) 4 (disK S (prs r) amt 4 + 1) j = disK S (prs r) amt j := fun j h => st_n h
  refine ⟨Good_eq (fun j _ _ h => e j h) a.1, (e 0 (by omega)).trans o.1, (e 1 (by omega)).trans o.2.1, (e 3 (by omega)).trans a.2.1, ?_, ?_, fun p => ?_⟩
  · rw [st_s, o.2.2.2]
  · refine Eq.trans ?_ a.2.2.1
    unfold cosS
    rw [e 1 (by omega)]
    refine sumZ_congr (fun k h2 h3 => ?_)
    have e1 : am (st (disK S (prs r) amt) 4 (disK S (prs r) amt 4 + 1)) k = am (disK S (prs r) amt) k := e _ (by omega)
    have e2 : ra (st (disK S (prs r) amt) 4 (disK S (prs r) amt 4 + 1)) k = ra (disK S (prs r) amt) k := e _ (by omega)
    rw [e1, e2]
  · have hf := prs_flow hr.1 p amt
    have hp := a.2.2.2 p
    have e0 : netS (st (disK S (prs r) amt) 4 (disK S (prs r) amt 4 + 1)) p = netS (disK S (prs r) amt) p := by
      unfold netS
      rw [e 1 (by omega)]
      refine sumZ_congr (fun k h2 h3 => ?_)
      have e1 : am (st (disK S (prs r) amt) 4 (disK S (prs r) amt 4 + 1)) k = am (disK S (prs r) amt) k := e _ (by omega)
      have e2 : fr (st (disK S (prs r) amt) 4 (disK S (prs r) amt 4 + 1)) k = fr (disK S (prs r) amt) k := e _ (by omega)
      have e3 : tO (st (disK S (prs r) amt) 4 (disK S (prs r) amt 4 + 1)) k = tO (disK S (prs r) amt) k := e _ (by omega)
      unfold netF
      rw [e1, e2, e3]
    rw [e0]
    omega
/-! what a part saves -/
theorem gcL_ge {a r : Int → Int} : ∀ (l : List Int) (left : Int), 0 ≤ left → (∀ k ∈ l, 0 ≤ a k ∧ 1 ≤ r k) → min left (sumL a l) ≤ gcL a r l left
  | [], left, h0, _ => by
    simp only [gcL, sumL]
    omega
  | k :: t, left, h0, h => by
    have h1 := h k List.mem_cons_self
    have hs := sumL_nn (f := a) (l := t) (fun x hx => (h x (List.mem_cons_of_mem _ hx)).1)
    have ih := gcL_ge (a := a) (r := r) t (left - min left (a k)) (by omega) (fun x hx => h x (List.mem_cons_of_mem _ hx))
    rw [gcL, sumL]
    have hm : min left (a k) * 1 ≤ min left (a k) * r k := Int.mul_le_mul_of_nonneg_left h1.2 (by omega)
    omega
theorem gcL_mono {a r : Int → Int} : ∀ (l : List Int) (x y : Int), 0 ≤ x → x ≤ y → (∀ k ∈ l, 0 ≤ a k ∧ 1 ≤ r k) → gcL a r l x ≤ gcL a r l y
  | [], _, _, _, _, _ => Int.le_refl _
  | k :: t, x, y, h0, hxy, h => by
    have h1 := h k List.mem_cons_self
    have ih := gcL_mono (a := a) (r := r) t (x - min x (a k)) (y - min y (a k)) (by omega) (by omega) (fun z hz => h z (List.mem_cons_of_mem _ hz))
    rw [gcL, gcL]
    have hm : min x (a k) * r k ≤ min y (a k) * r k := Int.mul_le_mul_of_nonneg_right (by omega) (by omega)
    omega
theorem cQ_L {S : Int → Int} (hI : Inv S) (q : Int) {amt : Int} (h : 0 ≤ amt) : cQ S q amt = gcL (am S) (ra S) (chR S q 9) amt := (gcL_chR hI q 9 amt h).symm
theorem chR_ar {S : Int → Int} (hI : Inv S) (q : Int) : ∀ k ∈ chR S q 9, 0 ≤ am S k ∧ 1 ≤ ra S k := fun k hk => by
  have a := chR_mem hk hI.2.1.1
  have f := hI.2.2 k a.2.1 a.2.2.1
  omega
theorem sumL_le {f g : Int → Int} : ∀ (l : List Int), (∀ k ∈ l, f k ≤ g k) → sumL f l ≤ sumL g l
  | [], _ => Int.le_refl _
  | k :: t, h => by
    have h1 := h k List.mem_cons_self
    have ih := sumL_le t (fun x hx => h x (List.mem_cons_of_mem _ hx))
    rw [sumL, sumL]
    omega
theorem sumL_const (v : Int) : ∀ (l : List Int), sumL (fun _ => v) l = v * l.length
  | [] => by rw [sumL, List.length_nil]; exact (Int.mul_zero v).symm
  | k :: t => by
    rw [sumL, sumL_const v t, List.length_cons, show ((t.length + 1 : Nat) : Int) = (t.length : Int) + 1 by omega, Int.mul_add, Int.mul_one]
    omega
theorem savP_ge {S : Int → Int} {r : List Int} {amt : Int} (hI : Inv S) (h0 : 0 ≤ amt) (h1 : amt ≤ room S r) : amt * r.length ≤ savP S r amt := by
  have := sumL_le (f := fun _ => amt) (g := fun q => cQ S q amt) (prs r) (fun q hq => by
    have h2 := rmC_le (d := dQ S) q hq
    unfold room at h1
    show amt ≤ cQ S q amt
    rw [cQ_L hI q h0]
    have h3 := gcL_ge (a := am S) (r := ra S) (chR S q 9) amt h0 (chR_ar hI q)
    rw [chR_sum hI] at h3
    omega)
  rw [sumL_const, prs_len] at this
  exact this
theorem savP_mono {S : Int → Int} {r : List Int} {x y : Int} (hI : Inv S) (h0 : 0 ≤ x) (h1 : x ≤ y) : savP S r x ≤ savP S r y := sumL_le (prs r) (fun q _ => by
  rw [cQ_L hI q h0, cQ_L hI q (by omega)]
  exact gcL_mono _ x y h0 h1 (chR_ar hI q))
/-! nets -/
def dF (S : Int → Int) (a b k : Int) : Int := (if fr S k = b ∧ tO S k = a then am S k else 0) - (if fr S k = a ∧ tO S k = b then am S k else 0)
theorem it2 {P Q : Prop} [Decidable P] [Decidable Q] (x : Int) : (if P ∧ Q then x else 0) = if P then (if Q then x else 0) else 0 := by
  by_cases p : P <;> by_cases q : Q <;> simp [p, q]
theorem dF_sum {S : Int → Int} (hI : Inv S) (a : Int) {k : Int} (h0 : 0 ≤ k) (h1 : k < S 1) : sumZ (fun b => dF S a b k) (S 0) = netF S a k := by
  have f := hI.2.2 k h0 h1
  have e1 := sumZ_pick (v := if tO S k = a then am S k else 0) f.1.1 f.1.2
  have e2 := sumZ_pick (v := if fr S k = a then am S k else 0) f.2.1.1 f.2.1.2
  unfold netF
  rw [← e1, ← e2, ← sumZ_sub]
  refine sumZ_congr (fun b _ _ => ?_)
  show _ = (if fr S k = b then (if tO S k = a then am S k else 0) else 0) - (if tO S k = b then (if fr S k = a then am S k else 0) else 0)
  unfold dF
  rw [it2, it2]
  by_cases c2 : tO S k = b
  · rw [if_pos c2]
    by_cases c4 : fr S k = a
    · rw [if_pos c4, if_pos c2]
    · rw [if_neg c4, if_pos c2]
  · rw [if_neg c2]
    by_cases c4 : fr S k = a
    · rw [if_pos c4, if_neg c2]
    · rw [if_neg c4, if_neg c2]
theorem net_split {S : Int → Int} (hI : Inv S) (a : Int) : sumZ (fun b => sumZ (fun k => dF S a b k) (S 1)) (S 0) = netS S a := by
  rw [sumZ_swap]
  exact sumZ_congr (fun k h0 h1 => dF_sum hI a h0 h1)
theorem net_all {S : Int → Int} (hI : Inv S) : sumZ (netS S) (S 0) = 0 := by
  show sumZ (fun p => sumZ (fun k => netF S p k) (S 1)) (S 0) = 0
  rw [sumZ_swap]
  refine (sumZ_congr (g := fun _ => 0) (fun k h0 h1 => ?_)).trans (sumZ_zero hI.2.1.1)
  have f := hI.2.2 k h0 h1
  have e1 := sumZ_pick (v := am S k) f.2.1.1 f.2.1.2
  have e2 := sumZ_pick (v := am S k) f.1.1 f.1.2
  show sumZ (fun p => (if tO S k = p then am S k else 0) - (if fr S k = p then am S k else 0)) (S 0) = 0
  rw [sumZ_sub, e1, e2]
  omega
