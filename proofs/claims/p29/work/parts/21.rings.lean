/-! rings: rows of parties, in their order; how they are kept in an int each -/
theorem nI_iI (n : Nat) : nI n = iI (n : Int) := (Int32.ofInt_eq_ofNat).symm
theorem nI_and (a b : Nat) : nI a &&& nI b = nI (a &&& b) := by
  apply Int32.toBitVec.inj
  rw [Int32.toBitVec_and]
  show BitVec.ofNat 32 a &&& BitVec.ofNat 32 b = BitVec.ofNat 32 (a &&& b)
  apply BitVec.eq_of_toNat_eq
  simp
theorem nI_or (a b : Nat) : nI a ||| nI b = nI (a ||| b) := by
  apply Int32.toBitVec.inj
  rw [Int32.toBitVec_or]
  show BitVec.ofNat 32 a ||| BitVec.ofNat 32 b = BitVec.ofNat 32 (a ||| b)
  apply BitVec.eq_of_toNat_eq
  simp
def sh7 (p : Int) : Int := ((7 * 2 ^ (3 * p.toNat) : Nat) : Int)
theorem seven {p : Int} (h0 : 0 ≤ p) (h1 : p < 7) : p = 0 ∨ p = 1 ∨ p = 2 ∨ p = 3 ∨ p = 4 ∨ p = 5 ∨ p = 6 := by omega
theorem rb_1 {p : Int} (h0 : 0 ≤ p) (h1 : p < 7) : iI 7 <<< (iI (3 * p) &&& 31) = iI (sh7 p) := by
  rcases seven h0 h1 with rfl | rfl | rfl | rfl | rfl | rfl | rfl <;> decide +kernel
theorem rb_2 {p : Int} (h0 : 0 ≤ p) (h1 : p < 7) : iI (sh7 p) ^^^ iI (-1) = iI (-1 - sh7 p) := by
  rcases seven h0 h1 with rfl | rfl | rfl | rfl | rfl | rfl | rfl <;> decide +kernel
theorem rb_m {p : Int} (h0 : 0 ≤ p) (h1 : p < 7) : iI (-1 - sh7 p) = nI (2 ^ 32 - (7 * 2 ^ (3 * p.toNat) + 1)) := by
  rcases seven h0 h1 with rfl | rfl | rfl | rfl | rfl | rfl | rfl <;> decide +kernel
theorem rb_3 {w p : Int} (hw : 0 ≤ w) (h0 : 0 ≤ p) (h1 : p < 7) : iI w &&& iI (-1 - sh7 p) = iI ((w.toNat &&& (2 ^ 32 - (7 * 2 ^ (3 * p.toNat) + 1)) : Nat) : Int) := by
  rw [rb_m h0 h1, ← nI_iI, ← nI_and, nI_iI w.toNat, show ((w.toNat : Nat) : Int) = w by omega]
theorem rb_4 {q p : Int} (hq : 0 ≤ q) (hq1 : q < 7) (h0 : 0 ≤ p) (h1 : p < 7) : iI q <<< (iI (3 * p) &&& 31) = iI ((q.toNat * 2 ^ (3 * p.toNat) : Nat) : Int) := by
  rcases seven h0 h1 with rfl | rfl | rfl | rfl | rfl | rfl | rfl <;> rcases seven hq hq1 with rfl | rfl | rfl | rfl | rfl | rfl | rfl <;> decide +kernel
theorem rb_5 (a b : Nat) : iI (a : Int) ||| iI (b : Int) = iI ((a ||| b : Nat) : Int) := by
  rw [← nI_iI, ← nI_iI, ← nI_iI, nI_or]
theorem rb_6 {w p : Int} (hw : 0 ≤ w) (hw1 : w < 2097152) (h0 : 0 ≤ p) (h1 : p < 7) : iI w >>> (iI (3 * p) &&& 31) = iI ((w.toNat / 2 ^ (3 * p.toNat) : Nat) : Int) := by
  have e : w = ((w.toNat : Nat) : Int) := by omega
  have g : ∀ k, ((iI (3 * p) &&& 31).toBitVec.smod 32).toNat = k → iI w >>> (iI (3 * p) &&& 31) = iI ((w.toNat / 2 ^ k : Nat) : Int) := fun k hk => by
    rw [e, ← nI_iI, ← nI_iI, pk_shrN (by omega) _ k hk, show (((w.toNat : Nat) : Int)).toNat = w.toNat by omega]
  refine g _ ?_
  rcases seven h0 h1 with rfl | rfl | rfl | rfl | rfl | rfl | rfl <;> decide +kernel
theorem rb_7 (n : Nat) (hn : n < 2097152) : iI (n : Int) &&& iI 7 = iI ((n % 8 : Nat) : Int) := by
  rw [← nI_iI, ← nI_iI]
  exact pk_andN (by omega) 3 (by decide)
/-- the digit k of a row -/
def dg (w k : Int) : Int := ((w.toNat / 2 ^ (3 * k.toNat) % 8 : Nat) : Int)
def rwI (w p q : Int) : Int := (((w.toNat &&& (2 ^ 32 - (7 * 2 ^ (3 * p.toNat) + 1))) ||| (q.toNat * 2 ^ (3 * p.toNat)) : Nat) : Int)
theorem rw_tb (w q p k j : Nat) (hq : q < 8) (hj : j < 3) (hp : p < 7) (hk : k < 7) : ((w &&& (2 ^ 32 - (7 * 2 ^ (3 * p) + 1))) ||| (q * 2 ^ (3 * p))).testBit (3 * k + j) = if k = p then q.testBit j else w.testBit (3 * k + j) := by
  have h7 : 7 * 2 ^ (3 * p) < 2 ^ 32 := by
    have : 2 ^ (3 * p) ≤ 2 ^ 18 := Nat.pow_le_pow_right (by omega) (by omega)
    omega
  have e7 : (7 * 2 ^ (3 * p)).testBit (3 * k + j) = decide (k = p) := by
    rw [Nat.testBit_mul_two_pow]
    by_cases c : k = p
    · subst c
      rw [show 3 * k + j - 3 * k = j by omega]
      rcases (show j = 0 ∨ j = 1 ∨ j = 2 by omega) with rfl | rfl | rfl <;> simp <;> decide
    · by_cases d : 3 * p ≤ 3 * k + j
      · have : Nat.testBit 7 (3 * k + j - 3 * p) = false := Nat.testBit_lt_two_pow (show 7 < 2 ^ (3 * k + j - 3 * p) from Nat.lt_of_lt_of_le (show 7 < 2 ^ 3 by decide) (Nat.pow_le_pow_right (by omega) (by omega)))
        simp [this, c]
      · simp [d, c]
  rw [Nat.testBit_or, Nat.testBit_and, Nat.testBit_two_pow_sub_succ h7, e7, Nat.testBit_mul_two_pow]
  by_cases c : k = p
  · subst c
    rw [if_pos rfl, show 3 * k + j - 3 * k = j by omega]
    simp
  · rw [if_neg c]
    by_cases d : 3 * p ≤ 3 * k + j
    · have : Nat.testBit q (3 * k + j - 3 * p) = false := Nat.testBit_lt_two_pow (Nat.lt_of_lt_of_le hq (show 8 ≤ 2 ^ (3 * k + j - 3 * p) from Nat.pow_le_pow_right (n := 2) (i := 3) (by omega) (by omega)))
      simp [this, c]
      omega
    · simp [d, c]
      omega
theorem dg_nat (w k : Nat) (j : Nat) : (w / 2 ^ (3 * k) % 8).testBit j = (decide (j < 3) && w.testBit (3 * k + j)) := by
  rw [show 8 = 2 ^ 3 by decide, Nat.testBit_mod_two_pow, Nat.testBit_div_two_pow, Nat.add_comm]
theorem dg_rw {w p q k : Int} (h0 : 0 ≤ p) (h1 : p < 7) (hq : 0 ≤ q) (hq1 : q < 8) (hk : 0 ≤ k) (hk1 : k < 7) : dg (rwI w p q) k = if k = p then q else dg w k := by
  have e : ∀ a b : Nat, (∀ j, j < 3 → a.testBit j = b.testBit j) → a < 8 → b < 8 → a = b := fun a b h ha hb => Nat.eq_of_testBit_eq (fun j => by
    by_cases c : j < 3
    · exact h j c
    · rw [Nat.testBit_lt_two_pow (Nat.lt_of_lt_of_le ha (Nat.pow_le_pow_right (n := 2) (i := 3) (by omega) (by omega))), Nat.testBit_lt_two_pow (Nat.lt_of_lt_of_le hb (Nat.pow_le_pow_right (n := 2) (i := 3) (by omega) (by omega)))])
  unfold dg rwI
  rw [Int.toNat_natCast]
  by_cases c : k = p
  · rw [if_pos c]
    have : ((w.toNat &&& (2 ^ 32 - (7 * 2 ^ (3 * p.toNat) + 1))) ||| (q.toNat * 2 ^ (3 * p.toNat))) / 2 ^ (3 * k.toNat) % 8 = q.toNat := by
      refine e _ _ (fun j hj => ?_) (Nat.mod_lt _ (by omega)) (by omega)
      rw [dg_nat, rw_tb _ _ _ _ _ (by omega) hj (by omega) (by omega), if_pos (by omega)]
      simp [hj]
    rw [this]
    omega
  · rw [if_neg c]
    congr 1
    refine e _ _ (fun j hj => ?_) (Nat.mod_lt _ (by omega)) (Nat.mod_lt _ (by omega))
    rw [dg_nat, dg_nat, rw_tb _ _ _ _ _ (by omega) hj (by omega) (by omega), if_neg (by omega)]
theorem rw_bd {w p q : Int} (hw : 0 ≤ w) (hw1 : w < 2097152) (h0 : 0 ≤ p) (h1 : p < 7) (hq : 0 ≤ q) (hq1 : q < 8) : 0 ≤ rwI w p q ∧ rwI w p q < 2097152 := by
  have a : (w.toNat &&& (2 ^ 32 - (7 * 2 ^ (3 * p.toNat) + 1))) < 2 ^ 21 := Nat.lt_of_le_of_lt Nat.and_le_left (by omega)
  have b : q.toNat * 2 ^ (3 * p.toNat) < 2 ^ 21 := by
    have h2 : 2 ^ (3 * p.toNat) ≤ 2 ^ 18 := Nat.pow_le_pow_right (by omega) (by omega)
    have h3 : q.toNat * 2 ^ (3 * p.toNat) ≤ 7 * 2 ^ 18 := Nat.mul_le_mul (by omega) h2
    omega
  have := Nat.or_lt_two_pow a b
  unfold rwI
  omega
theorem dg_bd (w k : Int) : 0 ≤ dg w k ∧ dg w k < 8 := by
  unfold dg
  have := Nat.mod_lt (w.toNat / 2 ^ (3 * k.toNat)) (show 0 < 8 by omega)
  omega
/-- a row as it is kept -/
def rep (w : Int) (r : List Int) : Prop := (0 ≤ w ∧ w < 2097152) ∧ ∀ k : Int, 0 ≤ k → k < 7 → dg w k = r.getD k.toNat 7
theorem rep_nil : rep 2097151 [] := ⟨by omega, fun k h0 h1 => by
  rcases seven h0 h1 with rfl | rfl | rfl | rfl | rfl | rfl | rfl <;> decide +kernel⟩
theorem rep_snoc {w p : Int} {r : List Int} (h : rep w r) (hr : r.length < 7) (h0 : 0 ≤ p) (h1 : p < 7) : rep (rwI w r.length p) (r ++ [p]) := by
  refine ⟨rw_bd h.1.1 h.1.2 (by omega) (by omega) h0 (by omega), fun k hk hk1 => ?_⟩
  rw [dg_rw (by omega) (by omega) h0 (by omega) hk hk1]
  by_cases c : k = r.length
  · subst c
    rw [if_pos rfl, Int.toNat_natCast, List.getD_eq_getElem?_getD, List.getElem?_append_right (Nat.le_refl _)]
    simp
  · rw [if_neg c, h.2 k hk hk1, List.getD_eq_getElem?_getD, List.getD_eq_getElem?_getD]
    by_cases d : k.toNat < r.length
    · rw [List.getElem?_append_left d]
    · rw [List.getElem?_append_right (by omega), List.getElem?_eq_none (by omega), List.getElem?_eq_none (by simp; omega)]
/-! the party set in an int -/
theorem us_1 : ∀ u : Fin 128, ∀ p : Fin 7, (iI (u.val : Int) >>> (iI (p.val : Int) &&& 31)) &&& iI 1 = iI (if Nat.testBit u.val p.val then 1 else 0) := by decide +kernel
theorem us_1a : ∀ u : Fin 128, ∀ p : Fin 7, iI (u.val : Int) >>> (iI (p.val : Int) &&& 31) = iI ((u.val / 2 ^ p.val : Nat) : Int) := by decide +kernel
theorem us_1b : ∀ u : Fin 128, ∀ p : Fin 7, iI ((u.val / 2 ^ p.val : Nat) : Int) &&& iI 1 = iI (if Nat.testBit u.val p.val then 1 else 0) := by decide +kernel
theorem us_2 : ∀ p : Fin 7, iI 1 <<< (iI (p.val : Int) &&& 31) = iI ((2 ^ p.val : Nat) : Int) := by decide +kernel
def msk (r : List Int) : Nat := r.foldl (fun m p => m ||| 2 ^ p.toNat) 0
theorem msk_snoc (r : List Int) (p : Int) : msk (r ++ [p]) = msk r ||| 2 ^ p.toNat := by
  unfold msk
  rw [List.foldl_append]
  rfl
/-- the candidates 7 - m .. 6 that ok tells, each with what g makes of it -/
def candF (ok : Int → Bool) (g : Int → List (List Int)) : Nat → List (List Int)
  | 0 => []
  | m + 1 => (if ok (6 - m) = true then g (6 - m) else []) ++ candF ok g m
def okE (d : Int → Int) (r : List Int) (p : Int) : Bool := decide (r.headD 0 < p ∧ p ∉ r ∧ 0 < d (7 * r.getLastD 0 + p))
/-- the rings that begin with a row, the row itself first -/
def E (d : Int → Int) : Nat → List Int → List (List Int)
  | 0, _ => []
  | n + 1, r => (if 0 < d (7 * r.getLastD 0 + r.headD 0) then [r] else []) ++ candF (okE d r) (fun p => E d n (r ++ [p])) 7
def RG (d : Int → Int) : List (List Int) := candF (fun _ => true) (fun p => E d 7 [p]) 7
theorem candF_congr {ok ok' : Int → Bool} {g g' : Int → List (List Int)} : ∀ (m : Nat), m ≤ 7 → (∀ p : Int, 7 - m ≤ p → p < 7 → ok p = ok' p ∧ (ok p = true → g p = g' p)) → candF ok g m = candF ok' g' m
  | 0, _, _ => rfl
  | m + 1, hm, h => by
    have h1 := h (6 - m) (by omega) (by omega)
    rw [candF, candF, candF_congr m (by omega) (fun p h0 h2 => h p (by omega) h2), ← h1.1]
    split
    · rename_i c
      rw [h1.2 c]
    · rfl
/-- parties that a row can go on to -/
def fre (r : List Int) (p : Int) : Prop := r.headD 0 < p ∧ p ∉ r
def fr1 (r : List Int) (p : Int) : Nat := if r.headD 0 < p ∧ p ∉ r then 1 else 0
def frN (r : List Int) : Nat := fr1 r 0 + fr1 r 1 + fr1 r 2 + fr1 r 3 + fr1 r 4 + fr1 r 5 + fr1 r 6
def nRg : Nat → Nat
  | 0 => 1
  | m + 1 => 1 + (m + 1) * nRg m
theorem head_snoc {r : List Int} (p : Int) (h : r ≠ []) : (r ++ [p]).headD 0 = r.headD 0 := by
  match r, h with
  | a :: t, _ => rfl
theorem last_snoc (r : List Int) (p : Int) : (r ++ [p]).getLastD 0 = p := by simp
theorem fr1_snoc {r : List Int} {p j : Int} (h : r ≠ []) : fr1 (r ++ [p]) j = if j = p then 0 else fr1 r j := by
  unfold fr1
  rw [head_snoc p h]
  by_cases c : j = p
  · rw [if_pos c, if_neg (by rw [c]; simp)]
  · rw [if_neg c]
    congr 1
    simp [c]
theorem frN_snoc {r : List Int} {p : Int} (h : r ≠ []) (h0 : 0 ≤ p) (h1 : p < 7) (hf : fr1 r p = 1) : frN (r ++ [p]) + 1 = frN r := by
  unfold frN
  simp only [fr1_snoc h]
  rcases seven h0 h1 with rfl | rfl | rfl | rfl | rfl | rfl | rfl <;> simp <;> omega
theorem candF_len {ok : Int → Bool} {g : Int → List (List Int)} {c : Int → Nat} {B : Nat} (h : ∀ p : Int, 0 ≤ p → p < 7 → ok p = true → c p = 1 ∧ (g p).length ≤ B) : (candF ok g 7).length ≤ (c 0 + c 1 + c 2 + c 3 + c 4 + c 5 + c 6) * B := by
  have one : ∀ p : Int, 0 ≤ p → p < 7 → (if ok p = true then g p else []).length ≤ c p * B := fun p h0 h1 => by
    split
    · rename_i q
      have := h p h0 h1 q
      rw [this.1]
      omega
    · simp
  have a0 := one 0 (by omega) (by omega)
  have a1 := one 1 (by omega) (by omega)
  have a2 := one 2 (by omega) (by omega)
  have a3 := one 3 (by omega) (by omega)
  have a4 := one 4 (by omega) (by omega)
  have a5 := one 5 (by omega) (by omega)
  have a6 := one 6 (by omega) (by omega)
  have e : candF ok g 7 = (if ok 0 = true then g 0 else []) ++ ((if ok 1 = true then g 1 else []) ++ ((if ok 2 = true then g 2 else []) ++ ((if ok 3 = true then g 3 else []) ++ ((if ok 4 = true then g 4 else []) ++ ((if ok 5 = true then g 5 else []) ++ ((if ok 6 = true then g 6 else []) ++ [])))))) := rfl
  rw [e]
  simp only [List.length_append, List.length_nil, Nat.add_mul]
  omega
theorem E_len (d : Int → Int) : ∀ (n : Nat) (r : List Int) (m : Nat), r ≠ [] → frN r = m → (E d n r).length ≤ nRg m
  | 0, _, m, _, _ => by simp [E]
  | n + 1, r, m, hr, hm => by
    rw [E, List.length_append]
    have h1 : (if 0 < d (7 * r.getLastD 0 + r.headD 0) then [r] else []).length ≤ 1 := by split <;> simp
    match m, hm with
    | 0, hm =>
      have := candF_len (ok := okE d r) (g := fun p => E d n (r ++ [p])) (c := fr1 r) (B := 0) (fun p h0 h2 hp => by
        have q := of_decide_eq_true hp
        have : fr1 r p = 1 := if_pos ⟨q.1, q.2.1⟩
        unfold frN at hm
        rcases seven h0 h2 with rfl | rfl | rfl | rfl | rfl | rfl | rfl <;> omega)
      simp only [nRg]
      omega
    | m + 1, hm =>
      have := candF_len (ok := okE d r) (g := fun p => E d n (r ++ [p])) (c := fr1 r) (B := nRg m) (fun p h0 h2 hp => by
        have q := of_decide_eq_true hp
        have h3 : fr1 r p = 1 := if_pos ⟨q.1, q.2.1⟩
        have h4 := frN_snoc hr h0 h2 h3
        exact ⟨h3, E_len d n (r ++ [p]) m (by simp) (by omega)⟩)
      have e : fr1 r 0 + fr1 r 1 + fr1 r 2 + fr1 r 3 + fr1 r 4 + fr1 r 5 + fr1 r 6 = m + 1 := hm
      rw [e] at this
      simp only [nRg]
      omega
theorem frN_one {p : Int} (h0 : 0 ≤ p) (h1 : p < 7) : frN [p] = 6 - p.toNat := by
  rcases seven h0 h1 with rfl | rfl | rfl | rfl | rfl | rfl | rfl <;> decide
theorem nRg_6 {m : Nat} (h : m ≤ 6) : m * nRg (m - 1) + 1 = nRg m := by
  rcases (show m = 0 ∨ m = 1 ∨ m = 2 ∨ m = 3 ∨ m = 4 ∨ m = 5 ∨ m = 6 by omega) with rfl | rfl | rfl | rfl | rfl | rfl | rfl <;> decide
theorem E_succ (d : Int → Int) (n : Nat) (r : List Int) : E d (n + 1) r = (if 0 < d (7 * r.getLastD 0 + r.headD 0) then [r] else []) ++ candF (okE d r) (fun p => E d n (r ++ [p])) 7 := rfl
theorem E1_len (d : Int → Int) {p : Int} (h0 : 0 ≤ p) (h1 : p < 7) (hd : d (7 * p + p) = 0) : (E d 7 [p]).length + 1 ≤ nRg (6 - p.toNat) := by
  have hf := frN_one h0 h1
  have := candF_len (ok := okE d [p]) (g := fun q => E d 6 ([p] ++ [q])) (c := fr1 [p]) (B := nRg (6 - p.toNat - 1)) (fun q g0 g2 hq => by
    have w := of_decide_eq_true hq
    have h3 : fr1 [p] q = 1 := if_pos ⟨w.1, w.2.1⟩
    have h4 := frN_snoc (List.cons_ne_nil p []) g0 g2 h3
    exact ⟨h3, E_len d 6 ([p] ++ [q]) _ (by simp) (by omega)⟩)
  have e : fr1 [p] 0 + fr1 [p] 1 + fr1 [p] 2 + fr1 [p] 3 + fr1 [p] 4 + fr1 [p] 5 + fr1 [p] 6 = 6 - p.toNat := hf
  rw [e] at this
  have h6 := nRg_6 (m := 6 - p.toNat) (by omega)
  have hc : ¬ 0 < d (7 * [p].getLastD 0 + [p].headD 0) := by
    show ¬ 0 < d (7 * p + p)
    omega
  rw [E_succ, if_neg hc, List.nil_append]
  omega
theorem candF_le {g : Int → List (List Int)} {b : Int → Nat} (h : ∀ p : Int, 0 ≤ p → p < 7 → (g p).length ≤ b p) : (candF (fun _ => true) g 7).length ≤ b 0 + b 1 + b 2 + b 3 + b 4 + b 5 + b 6 := by
  have e : candF (fun _ => true) g 7 = g 0 ++ (g 1 ++ (g 2 ++ (g 3 ++ (g 4 ++ (g 5 ++ (g 6 ++ [])))))) := rfl
  have a0 := h 0 (by omega) (by omega)
  have a1 := h 1 (by omega) (by omega)
  have a2 := h 2 (by omega) (by omega)
  have a3 := h 3 (by omega) (by omega)
  have a4 := h 4 (by omega) (by omega)
  have a5 := h 5 (by omega) (by omega)
  have a6 := h 6 (by omega) (by omega)
  rw [e]
  simp only [List.length_append, List.length_nil]
  omega
theorem RG_len (d : Int → Int) (hd : ∀ p : Int, 0 ≤ p → p < 7 → d (7 * p + p) = 0) : (RG d).length ≤ 2365 := by
  have h := candF_le (g := fun p => E d 7 [p]) (b := fun p => nRg (6 - p.toNat) - 1) (fun p h0 h1 => by
    have := E1_len d h0 h1 (hd p h0 h1)
    omega)
  have e : (nRg (6 - (0 : Int).toNat) - 1) + (nRg (6 - (1 : Int).toNat) - 1) + (nRg (6 - (2 : Int).toNat) - 1) + (nRg (6 - (3 : Int).toNat) - 1) + (nRg (6 - (4 : Int).toNat) - 1) + (nRg (6 - (5 : Int).toNat) - 1) + (nRg (6 - (6 : Int).toNat) - 1) = 2365 := by decide
  unfold RG
  omega
