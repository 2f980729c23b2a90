/-! the words for a state: S 0 parties, S 1 promises, S 2 payments, S 3 releases, S 4 discharges; a promise k at 5 + 8 k and on -/
def fr (S : Int → Int) (k : Int) : Int := S (5 + 8 * k)
def tO (S : Int → Int) (k : Int) : Int := S (6 + 8 * k)
def am (S : Int → Int) (k : Int) : Int := S (7 + 8 * k)
def ra (S : Int → Int) (k : Int) : Int := S (8 + 8 * k)
def fi (S : Int → Int) (k : Int) : Int := S (10 + 8 * k)
def pa (S : Int → Int) (k : Int) : Int := S (11 + 8 * k)
def re (S : Int → Int) (k : Int) : Int := S (12 + 8 * k)
def di (S : Int → Int) (k : Int) : Int := S (9 + 8 * k)
theorem aJ_congr {c : ClassId} {n : Nat} {f g : Int → Int} (h : ∀ k : Int, 0 ≤ k → f k = g k) : aJ c n f = aJ c n g := by
  unfold aJ
  have e : (fun j : Nat => iI (f (j : Int))) = fun j : Nat => iI (g (j : Int)) := funext fun j => by rw [h j (by omega)]
  rw [e]
def bk (cA : Nat → ClassId) (b : Nat → Nat) (S : Int → Int) : va_W := [(b 0, .inr (0, [.int (iI (S 0)), .int (iI (S 1)), .int (iI (S 2)), .int (iI (S 3)), .int (iI (S 4)), .ref (b 1), .ref (b 2), .ref (b 3), .ref (b 4), .ref (b 5), .ref (b 6), .ref (b 7), .ref (b 8)])), (b 1, aJ (cA 0) 40 (fr S)), (b 2, aJ (cA 0) 40 (tO S)), (b 3, aJ (cA 0) 40 (am S)), (b 4, aJ (cA 0) 40 (ra S)), (b 5, aJ (cA 0) 40 (fi S)), (b 6, aJ (cA 0) 40 (pa S)), (b 7, aJ (cA 0) 40 (re S)), (b 8, aJ (cA 1) 40 (di S))]
theorem bk_put0 {cA : Nat → ClassId} {b : Nat → Nat} {S : Int → Int} {x : Int} : (bk cA b S).set 0 (b 0, .inr (0, ([.int (iI (S 0)), .int (iI (S 1)), .int (iI (S 2)), .int (iI (S 3)), .int (iI (S 4)), .ref (b 1), .ref (b 2), .ref (b 3), .ref (b 4), .ref (b 5), .ref (b 6), .ref (b 7), .ref (b 8)] : List Value).set 0 (.int (iI x)))) = bk cA b (st S 0 x) := by
  have a1 : aJ (cA 0) 40 (fr (st S 0 x)) = aJ (cA 0) 40 (fr S) := aJ_congr (fun k hk => st_n (by omega))
  have a2 : aJ (cA 0) 40 (tO (st S 0 x)) = aJ (cA 0) 40 (tO S) := aJ_congr (fun k hk => st_n (by omega))
  have a3 : aJ (cA 0) 40 (am (st S 0 x)) = aJ (cA 0) 40 (am S) := aJ_congr (fun k hk => st_n (by omega))
  have a4 : aJ (cA 0) 40 (ra (st S 0 x)) = aJ (cA 0) 40 (ra S) := aJ_congr (fun k hk => st_n (by omega))
  have a5 : aJ (cA 0) 40 (fi (st S 0 x)) = aJ (cA 0) 40 (fi S) := aJ_congr (fun k hk => st_n (by omega))
  have a6 : aJ (cA 0) 40 (pa (st S 0 x)) = aJ (cA 0) 40 (pa S) := aJ_congr (fun k hk => st_n (by omega))
  have a7 : aJ (cA 0) 40 (re (st S 0 x)) = aJ (cA 0) 40 (re S) := aJ_congr (fun k hk => st_n (by omega))
  have a8 : aJ (cA 1) 40 (di (st S 0 x)) = aJ (cA 1) 40 (di S) := aJ_congr (fun k hk => st_n (by omega))
  have e0 : st S 0 x 0 = x := st_s _ _ _
  have e1 : st S 0 x 1 = S 1 := st_n (by omega)
  have e2 : st S 0 x 2 = S 2 := st_n (by omega)
  have e3 : st S 0 x 3 = S 3 := st_n (by omega)
  have e4 : st S 0 x 4 = S 4 := st_n (by omega)
  simp only [bk, List.set, a1, a2, a3, a4, a5, a6, a7, a8, e0, e1, e2, e3, e4]
theorem bk_put1 {cA : Nat → ClassId} {b : Nat → Nat} {S : Int → Int} {x : Int} : (bk cA b S).set 0 (b 0, .inr (0, ([.int (iI (S 0)), .int (iI (S 1)), .int (iI (S 2)), .int (iI (S 3)), .int (iI (S 4)), .ref (b 1), .ref (b 2), .ref (b 3), .ref (b 4), .ref (b 5), .ref (b 6), .ref (b 7), .ref (b 8)] : List Value).set 1 (.int (iI x)))) = bk cA b (st S 1 x) := by
  have a1 : aJ (cA 0) 40 (fr (st S 1 x)) = aJ (cA 0) 40 (fr S) := aJ_congr (fun k hk => st_n (by omega))
  have a2 : aJ (cA 0) 40 (tO (st S 1 x)) = aJ (cA 0) 40 (tO S) := aJ_congr (fun k hk => st_n (by omega))
  have a3 : aJ (cA 0) 40 (am (st S 1 x)) = aJ (cA 0) 40 (am S) := aJ_congr (fun k hk => st_n (by omega))
  have a4 : aJ (cA 0) 40 (ra (st S 1 x)) = aJ (cA 0) 40 (ra S) := aJ_congr (fun k hk => st_n (by omega))
  have a5 : aJ (cA 0) 40 (fi (st S 1 x)) = aJ (cA 0) 40 (fi S) := aJ_congr (fun k hk => st_n (by omega))
  have a6 : aJ (cA 0) 40 (pa (st S 1 x)) = aJ (cA 0) 40 (pa S) := aJ_congr (fun k hk => st_n (by omega))
  have a7 : aJ (cA 0) 40 (re (st S 1 x)) = aJ (cA 0) 40 (re S) := aJ_congr (fun k hk => st_n (by omega))
  have a8 : aJ (cA 1) 40 (di (st S 1 x)) = aJ (cA 1) 40 (di S) := aJ_congr (fun k hk => st_n (by omega))
  have e0 : st S 1 x 0 = S 0 := st_n (by omega)
  have e1 : st S 1 x 1 = x := st_s _ _ _
  have e2 : st S 1 x 2 = S 2 := st_n (by omega)
  have e3 : st S 1 x 3 = S 3 := st_n (by omega)
  have e4 : st S 1 x 4 = S 4 := st_n (by omega)
  simp only [bk, List.set, a1, a2, a3, a4, a5, a6, a7, a8, e0, e1, e2, e3, e4]
theorem bk_put2 {cA : Nat → ClassId} {b : Nat → Nat} {S : Int → Int} {x : Int} : (bk cA b S).set 0 (b 0, .inr (0, ([.int (iI (S 0)), .int (iI (S 1)), .int (iI (S 2)), .int (iI (S 3)), .int (iI (S 4)), .ref (b 1), .ref (b 2), .ref (b 3), .ref (b 4), .ref (b 5), .ref (b 6), .ref (b 7), .ref (b 8)] : List Value).set 2 (.int (iI x)))) = bk cA b (st S 2 x) := by
  have a1 : aJ (cA 0) 40 (fr (st S 2 x)) = aJ (cA 0) 40 (fr S) := aJ_congr (fun k hk => st_n (by omega))
  have a2 : aJ (cA 0) 40 (tO (st S 2 x)) = aJ (cA 0) 40 (tO S) := aJ_congr (fun k hk => st_n (by omega))
  have a3 : aJ (cA 0) 40 (am (st S 2 x)) = aJ (cA 0) 40 (am S) := aJ_congr (fun k hk => st_n (by omega))
  have a4 : aJ (cA 0) 40 (ra (st S 2 x)) = aJ (cA 0) 40 (ra S) := aJ_congr (fun k hk => st_n (by omega))
  have a5 : aJ (cA 0) 40 (fi (st S 2 x)) = aJ (cA 0) 40 (fi S) := aJ_congr (fun k hk => st_n (by omega))
  have a6 : aJ (cA 0) 40 (pa (st S 2 x)) = aJ (cA 0) 40 (pa S) := aJ_congr (fun k hk => st_n (by omega))
  have a7 : aJ (cA 0) 40 (re (st S 2 x)) = aJ (cA 0) 40 (re S) := aJ_congr (fun k hk => st_n (by omega))
  have a8 : aJ (cA 1) 40 (di (st S 2 x)) = aJ (cA 1) 40 (di S) := aJ_congr (fun k hk => st_n (by omega))
  have e0 : st S 2 x 0 = S 0 := st_n (by omega)
  have e1 : st S 2 x 1 = S 1 := st_n (by omega)
  have e2 : st S 2 x 2 = x := st_s _ _ _
  have e3 : st S 2 x 3 = S 3 := st_n (by omega)
  have e4 : st S 2 x 4 = S 4 := st_n (by omega)
  simp only [bk, List.set, a1, a2, a3, a4, a5, a6, a7, a8, e0, e1, e2, e3, e4]
theorem bk_put3 {cA : Nat → ClassId} {b : Nat → Nat} {S : Int → Int} {x : Int} : (bk cA b S).set 0 (b 0, .inr (0, ([.int (iI (S 0)), .int (iI (S 1)), .int (iI (S 2)), .int (iI (S 3)), .int (iI (S 4)), .ref (b 1), .ref (b 2), .ref (b 3), .ref (b 4), .ref (b 5), .ref (b 6), .ref (b 7), .ref (b 8)] : List Value).set 3 (.int (iI x)))) = bk cA b (st S 3 x) := by
  have a1 : aJ (cA 0) 40 (fr (st S 3 x)) = aJ (cA 0) 40 (fr S) := aJ_congr (fun k hk => st_n (by omega))
  have a2 : aJ (cA 0) 40 (tO (st S 3 x)) = aJ (cA 0) 40 (tO S) := aJ_congr (fun k hk => st_n (by omega))
  have a3 : aJ (cA 0) 40 (am (st S 3 x)) = aJ (cA 0) 40 (am S) := aJ_congr (fun k hk => st_n (by omega))
  have a4 : aJ (cA 0) 40 (ra (st S 3 x)) = aJ (cA 0) 40 (ra S) := aJ_congr (fun k hk => st_n (by omega))
  have a5 : aJ (cA 0) 40 (fi (st S 3 x)) = aJ (cA 0) 40 (fi S) := aJ_congr (fun k hk => st_n (by omega))
  have a6 : aJ (cA 0) 40 (pa (st S 3 x)) = aJ (cA 0) 40 (pa S) := aJ_congr (fun k hk => st_n (by omega))
  have a7 : aJ (cA 0) 40 (re (st S 3 x)) = aJ (cA 0) 40 (re S) := aJ_congr (fun k hk => st_n (by omega))
  have a8 : aJ (cA 1) 40 (di (st S 3 x)) = aJ (cA 1) 40 (di S) := aJ_congr (fun k hk => st_n (by omega))
  have e0 : st S 3 x 0 = S 0 := st_n (by omega)
  have e1 : st S 3 x 1 = S 1 := st_n (by omega)
  have e2 : st S 3 x 2 = S 2 := st_n (by omega)
  have e3 : st S 3 x 3 = x := st_s _ _ _
  have e4 : st S 3 x 4 = S 4 := st_n (by omega)
  simp only [bk, List.set, a1, a2, a3, a4, a5, a6, a7, a8, e0, e1, e2, e3, e4]
theorem bk_put4 {cA : Nat → ClassId} {b : Nat → Nat} {S : Int → Int} {x : Int} : (bk cA b S).set 0 (b 0, .inr (0, ([.int (iI (S 0)), .int (iI (S 1)), .int (iI (S 2)), .int (iI (S 3)), .int (iI (S 4)), .ref (b 1), .ref (b 2), .ref (b 3), .ref (b 4), .ref (b 5), .ref (b 6), .ref (b 7), .ref (b 8)] : List Value).set 4 (.int (iI x)))) = bk cA b (st S 4 x) := by
  have a1 : aJ (cA 0) 40 (fr (st S 4 x)) = aJ (cA 0) 40 (fr S) := aJ_congr (fun k hk => st_n (by omega))
  have a2 : aJ (cA 0) 40 (tO (st S 4 x)) = aJ (cA 0) 40 (tO S) := aJ_congr (fun k hk => st_n (by omega))
  have a3 : aJ (cA 0) 40 (am (st S 4 x)) = aJ (cA 0) 40 (am S) := aJ_congr (fun k hk => st_n (by omega))
  have a4 : aJ (cA 0) 40 (ra (st S 4 x)) = aJ (cA 0) 40 (ra S) := aJ_congr (fun k hk => st_n (by omega))
  have a5 : aJ (cA 0) 40 (fi (st S 4 x)) = aJ (cA 0) 40 (fi S) := aJ_congr (fun k hk => st_n (by omega))
  have a6 : aJ (cA 0) 40 (pa (st S 4 x)) = aJ (cA 0) 40 (pa S) := aJ_congr (fun k hk => st_n (by omega))
  have a7 : aJ (cA 0) 40 (re (st S 4 x)) = aJ (cA 0) 40 (re S) := aJ_congr (fun k hk => st_n (by omega))
  have a8 : aJ (cA 1) 40 (di (st S 4 x)) = aJ (cA 1) 40 (di S) := aJ_congr (fun k hk => st_n (by omega))
  have e0 : st S 4 x 0 = S 0 := st_n (by omega)
  have e1 : st S 4 x 1 = S 1 := st_n (by omega)
  have e2 : st S 4 x 2 = S 2 := st_n (by omega)
  have e3 : st S 4 x 3 = S 3 := st_n (by omega)
  have e4 : st S 4 x 4 = x := st_s _ _ _
  simp only [bk, List.set, a1, a2, a3, a4, a5, a6, a7, a8, e0, e1, e2, e3, e4]
theorem bk_ast1 {cA : Nat → ClassId} {b : Nat → Nat} {S : Int → Int} {i x : Int} (h : 0 ≤ i) : (bk cA b S).set 1 (b 1, aJ (cA 0) 40 (st (fr S) i x)) = bk cA b (st S (5 + 8 * i) x) := by
  have a1 : aJ (cA 0) 40 (fr (st S (5 + 8 * i) x)) = aJ (cA 0) 40 (st (fr S) i x) := aJ_congr (fun k hk => by
    unfold fr st
    by_cases q : k = i
    · subst q; rw [if_pos rfl, if_pos rfl]
    · rw [if_neg q, if_neg (by omega)])
  have a2 : aJ (cA 0) 40 (tO (st S (5 + 8 * i) x)) = aJ (cA 0) 40 (tO S) := aJ_congr (fun k hk => st_n (by omega))
  have a3 : aJ (cA 0) 40 (am (st S (5 + 8 * i) x)) = aJ (cA 0) 40 (am S) := aJ_congr (fun k hk => st_n (by omega))
  have a4 : aJ (cA 0) 40 (ra (st S (5 + 8 * i) x)) = aJ (cA 0) 40 (ra S) := aJ_congr (fun k hk => st_n (by omega))
  have a5 : aJ (cA 0) 40 (fi (st S (5 + 8 * i) x)) = aJ (cA 0) 40 (fi S) := aJ_congr (fun k hk => st_n (by omega))
  have a6 : aJ (cA 0) 40 (pa (st S (5 + 8 * i) x)) = aJ (cA 0) 40 (pa S) := aJ_congr (fun k hk => st_n (by omega))
  have a7 : aJ (cA 0) 40 (re (st S (5 + 8 * i) x)) = aJ (cA 0) 40 (re S) := aJ_congr (fun k hk => st_n (by omega))
  have a8 : aJ (cA 1) 40 (di (st S (5 + 8 * i) x)) = aJ (cA 1) 40 (di S) := aJ_congr (fun k hk => st_n (by omega))
  have e0 : st S (5 + 8 * i) x 0 = S 0 := st_n (by omega)
  have e1 : st S (5 + 8 * i) x 1 = S 1 := st_n (by omega)
  have e2 : st S (5 + 8 * i) x 2 = S 2 := st_n (by omega)
  have e3 : st S (5 + 8 * i) x 3 = S 3 := st_n (by omega)
  have e4 : st S (5 + 8 * i) x 4 = S 4 := st_n (by omega)
  simp only [bk, List.set, a1, a2, a3, a4, a5, a6, a7, a8, e0, e1, e2, e3, e4]
theorem bk_ast2 {cA : Nat → ClassId} {b : Nat → Nat} {S : Int → Int} {i x : Int} (h : 0 ≤ i) : (bk cA b S).set 2 (b 2, aJ (cA 0) 40 (st (tO S) i x)) = bk cA b (st S (6 + 8 * i) x) := by
  have a1 : aJ (cA 0) 40 (fr (st S (6 + 8 * i) x)) = aJ (cA 0) 40 (fr S) := aJ_congr (fun k hk => st_n (by omega))
  have a2 : aJ (cA 0) 40 (tO (st S (6 + 8 * i) x)) = aJ (cA 0) 40 (st (tO S) i x) := aJ_congr (fun k hk => by
    unfold tO st
    by_cases q : k = i
    · subst q; rw [if_pos rfl, if_pos rfl]
    · rw [if_neg q, if_neg (by omega)])
  have a3 : aJ (cA 0) 40 (am (st S (6 + 8 * i) x)) = aJ (cA 0) 40 (am S) := aJ_congr (fun k hk => st_n (by omega))
  have a4 : aJ (cA 0) 40 (ra (st S (6 + 8 * i) x)) = aJ (cA 0) 40 (ra S) := aJ_congr (fun k hk => st_n (by omega))
  have a5 : aJ (cA 0) 40 (fi (st S (6 + 8 * i) x)) = aJ (cA 0) 40 (fi S) := aJ_congr (fun k hk => st_n (by omega))
  have a6 : aJ (cA 0) 40 (pa (st S (6 + 8 * i) x)) = aJ (cA 0) 40 (pa S) := aJ_congr (fun k hk => st_n (by omega))
  have a7 : aJ (cA 0) 40 (re (st S (6 + 8 * i) x)) = aJ (cA 0) 40 (re S) := aJ_congr (fun k hk => st_n (by omega))
  have a8 : aJ (cA 1) 40 (di (st S (6 + 8 * i) x)) = aJ (cA 1) 40 (di S) := aJ_congr (fun k hk => st_n (by omega))
  have e0 : st S (6 + 8 * i) x 0 = S 0 := st_n (by omega)
  have e1 : st S (6 + 8 * i) x 1 = S 1 := st_n (by omega)
  have e2 : st S (6 + 8 * i) x 2 = S 2 := st_n (by omega)
  have e3 : st S (6 + 8 * i) x 3 = S 3 := st_n (by omega)
  have e4 : st S (6 + 8 * i) x 4 = S 4 := st_n (by omega)
  simp only [bk, List.set, a1, a2, a3, a4, a5, a6, a7, a8, e0, e1, e2, e3, e4]
theorem bk_ast3 {cA : Nat → ClassId} {b : Nat → Nat} {S : Int → Int} {i x : Int} (h : 0 ≤ i) : (bk cA b S).set 3 (b 3, aJ (cA 0) 40 (st (am S) i x)) = bk cA b (st S (7 + 8 * i) x) := by
  have a1 : aJ (cA 0) 40 (fr (st S (7 + 8 * i) x)) = aJ (cA 0) 40 (fr S) := aJ_congr (fun k hk => st_n (by omega))
  have a2 : aJ (cA 0) 40 (tO (st S (7 + 8 * i) x)) = aJ (cA 0) 40 (tO S) := aJ_congr (fun k hk => st_n (by omega))
  have a3 : aJ (cA 0) 40 (am (st S (7 + 8 * i) x)) = aJ (cA 0) 40 (st (am S) i x) := aJ_congr (fun k hk => by
    unfold am st
    by_cases q : k = i
    · subst q; rw [if_pos rfl, if_pos rfl]
    · rw [if_neg q, if_neg (by omega)])
  have a4 : aJ (cA 0) 40 (ra (st S (7 + 8 * i) x)) = aJ (cA 0) 40 (ra S) := aJ_congr (fun k hk => st_n (by omega))
  have a5 : aJ (cA 0) 40 (fi (st S (7 + 8 * i) x)) = aJ (cA 0) 40 (fi S) := aJ_congr (fun k hk => st_n (by omega))
  have a6 : aJ (cA 0) 40 (pa (st S (7 + 8 * i) x)) = aJ (cA 0) 40 (pa S) := aJ_congr (fun k hk => st_n (by omega))
  have a7 : aJ (cA 0) 40 (re (st S (7 + 8 * i) x)) = aJ (cA 0) 40 (re S) := aJ_congr (fun k hk => st_n (by omega))
  have a8 : aJ (cA 1) 40 (di (st S (7 + 8 * i) x)) = aJ (cA 1) 40 (di S) := aJ_congr (fun k hk => st_n (by omega))
  have e0 : st S (7 + 8 * i) x 0 = S 0 := st_n (by omega)
  have e1 : st S (7 + 8 * i) x 1 = S 1 := st_n (by omega)
  have e2 : st S (7 + 8 * i) x 2 = S 2 := st_n (by omega)
  have e3 : st S (7 + 8 * i) x 3 = S 3 := st_n (by omega)
  have e4 : st S (7 + 8 * i) x 4 = S 4 := st_n (by omega)
  simp only [bk, List.set, a1, a2, a3, a4, a5, a6, a7, a8, e0, e1, e2, e3, e4]
theorem bk_ast4 {cA : Nat → ClassId} {b : Nat → Nat} {S : Int → Int} {i x : Int} (h : 0 ≤ i) : (bk cA b S).set 4 (b 4, aJ (cA 0) 40 (st (ra S) i x)) = bk cA b (st S (8 + 8 * i) x) := by
  have a1 : aJ (cA 0) 40 (fr (st S (8 + 8 * i) x)) = aJ (cA 0) 40 (fr S) := aJ_congr (fun k hk => st_n (by omega))
  have a2 : aJ (cA 0) 40 (tO (st S (8 + 8 * i) x)) = aJ (cA 0) 40 (tO S) := aJ_congr (fun k hk => st_n (by omega))
  have a3 : aJ (cA 0) 40 (am (st S (8 + 8 * i) x)) = aJ (cA 0) 40 (am S) := aJ_congr (fun k hk => st_n (by omega))
  have a4 : aJ (cA 0) 40 (ra (st S (8 + 8 * i) x)) = aJ (cA 0) 40 (st (ra S) i x) := aJ_congr (fun k hk => by
    unfold ra st
    by_cases q : k = i
    · subst q; rw [if_pos rfl, if_pos rfl]
    · rw [if_neg q, if_neg (by omega)])
  have a5 : aJ (cA 0) 40 (fi (st S (8 + 8 * i) x)) = aJ (cA 0) 40 (fi S) := aJ_congr (fun k hk => st_n (by omega))
  have a6 : aJ (cA 0) 40 (pa (st S (8 + 8 * i) x)) = aJ (cA 0) 40 (pa S) := aJ_congr (fun k hk => st_n (by omega))
  have a7 : aJ (cA 0) 40 (re (st S (8 + 8 * i) x)) = aJ (cA 0) 40 (re S) := aJ_congr (fun k hk => st_n (by omega))
  have a8 : aJ (cA 1) 40 (di (st S (8 + 8 * i) x)) = aJ (cA 1) 40 (di S) := aJ_congr (fun k hk => st_n (by omega))
  have e0 : st S (8 + 8 * i) x 0 = S 0 := st_n (by omega)
  have e1 : st S (8 + 8 * i) x 1 = S 1 := st_n (by omega)
  have e2 : st S (8 + 8 * i) x 2 = S 2 := st_n (by omega)
  have e3 : st S (8 + 8 * i) x 3 = S 3 := st_n (by omega)
  have e4 : st S (8 + 8 * i) x 4 = S 4 := st_n (by omega)
  simp only [bk, List.set, a1, a2, a3, a4, a5, a6, a7, a8, e0, e1, e2, e3, e4]
theorem bk_ast5 {cA : Nat → ClassId} {b : Nat → Nat} {S : Int → Int} {i x : Int} (h : 0 ≤ i) : (bk cA b S).set 5 (b 5, aJ (cA 0) 40 (st (fi S) i x)) = bk cA b (st S (10 + 8 * i) x) := by
  have a1 : aJ (cA 0) 40 (fr (st S (10 + 8 * i) x)) = aJ (cA 0) 40 (fr S) := aJ_congr (fun k hk => st_n (by omega))
  have a2 : aJ (cA 0) 40 (tO (st S (10 + 8 * i) x)) = aJ (cA 0) 40 (tO S) := aJ_congr (fun k hk => st_n (by omega))
  have a3 : aJ (cA 0) 40 (am (st S (10 + 8 * i) x)) = aJ (cA 0) 40 (am S) := aJ_congr (fun k hk => st_n (by omega))
  have a4 : aJ (cA 0) 40 (ra (st S (10 + 8 * i) x)) = aJ (cA 0) 40 (ra S) := aJ_congr (fun k hk => st_n (by omega))
  have a5 : aJ (cA 0) 40 (fi (st S (10 + 8 * i) x)) = aJ (cA 0) 40 (st (fi S) i x) := aJ_congr (fun k hk => by
    unfold fi st
    by_cases q : k = i
    · subst q; rw [if_pos rfl, if_pos rfl]
    · rw [if_neg q, if_neg (by omega)])
  have a6 : aJ (cA 0) 40 (pa (st S (10 + 8 * i) x)) = aJ (cA 0) 40 (pa S) := aJ_congr (fun k hk => st_n (by omega))
  have a7 : aJ (cA 0) 40 (re (st S (10 + 8 * i) x)) = aJ (cA 0) 40 (re S) := aJ_congr (fun k hk => st_n (by omega))
  have a8 : aJ (cA 1) 40 (di (st S (10 + 8 * i) x)) = aJ (cA 1) 40 (di S) := aJ_congr (fun k hk => st_n (by omega))
  have e0 : st S (10 + 8 * i) x 0 = S 0 := st_n (by omega)
  have e1 : st S (10 + 8 * i) x 1 = S 1 := st_n (by omega)
  have e2 : st S (10 + 8 * i) x 2 = S 2 := st_n (by omega)
  have e3 : st S (10 + 8 * i) x 3 = S 3 := st_n (by omega)
  have e4 : st S (10 + 8 * i) x 4 = S 4 := st_n (by omega)
  simp only [bk, List.set, a1, a2, a3, a4, a5, a6, a7, a8, e0, e1, e2, e3, e4]
theorem bk_ast6 {cA : Nat → ClassId} {b : Nat → Nat} {S : Int → Int} {i x : Int} (h : 0 ≤ i) : (bk cA b S).set 6 (b 6, aJ (cA 0) 40 (st (pa S) i x)) = bk cA b (st S (11 + 8 * i) x) := by
  have a1 : aJ (cA 0) 40 (fr (st S (11 + 8 * i) x)) = aJ (cA 0) 40 (fr S) := aJ_congr (fun k hk => st_n (by omega))
  have a2 : aJ (cA 0) 40 (tO (st S (11 + 8 * i) x)) = aJ (cA 0) 40 (tO S) := aJ_congr (fun k hk => st_n (by omega))
  have a3 : aJ (cA 0) 40 (am (st S (11 + 8 * i) x)) = aJ (cA 0) 40 (am S) := aJ_congr (fun k hk => st_n (by omega))
  have a4 : aJ (cA 0) 40 (ra (st S (11 + 8 * i) x)) = aJ (cA 0) 40 (ra S) := aJ_congr (fun k hk => st_n (by omega))
  have a5 : aJ (cA 0) 40 (fi (st S (11 + 8 * i) x)) = aJ (cA 0) 40 (fi S) := aJ_congr (fun k hk => st_n (by omega))
  have a6 : aJ (cA 0) 40 (pa (st S (11 + 8 * i) x)) = aJ (cA 0) 40 (st (pa S) i x) := aJ_congr (fun k hk => by
    unfold pa st
    by_cases q : k = i
    · subst q; rw [if_pos rfl, if_pos rfl]
    · rw [if_neg q, if_neg (by omega)])
  have a7 : aJ (cA 0) 40 (re (st S (11 + 8 * i) x)) = aJ (cA 0) 40 (re S) := aJ_congr (fun k hk => st_n (by omega))
  have a8 : aJ (cA 1) 40 (di (st S (11 + 8 * i) x)) = aJ (cA 1) 40 (di S) := aJ_congr (fun k hk => st_n (by omega))
  have e0 : st S (11 + 8 * i) x 0 = S 0 := st_n (by omega)
  have e1 : st S (11 + 8 * i) x 1 = S 1 := st_n (by omega)
  have e2 : st S (11 + 8 * i) x 2 = S 2 := st_n (by omega)
  have e3 : st S (11 + 8 * i) x 3 = S 3 := st_n (by omega)
  have e4 : st S (11 + 8 * i) x 4 = S 4 := st_n (by omega)
  simp only [bk, List.set, a1, a2, a3, a4, a5, a6, a7, a8, e0, e1, e2, e3, e4]
theorem bk_ast7 {cA : Nat → ClassId} {b : Nat → Nat} {S : Int → Int} {i x : Int} (h : 0 ≤ i) : (bk cA b S).set 7 (b 7, aJ (cA 0) 40 (st (re S) i x)) = bk cA b (st S (12 + 8 * i) x) := by
  have a1 : aJ (cA 0) 40 (fr (st S (12 + 8 * i) x)) = aJ (cA 0) 40 (fr S) := aJ_congr (fun k hk => st_n (by omega))
  have a2 : aJ (cA 0) 40 (tO (st S (12 + 8 * i) x)) = aJ (cA 0) 40 (tO S) := aJ_congr (fun k hk => st_n (by omega))
  have a3 : aJ (cA 0) 40 (am (st S (12 + 8 * i) x)) = aJ (cA 0) 40 (am S) := aJ_congr (fun k hk => st_n (by omega))
  have a4 : aJ (cA 0) 40 (ra (st S (12 + 8 * i) x)) = aJ (cA 0) 40 (ra S) := aJ_congr (fun k hk => st_n (by omega))
  have a5 : aJ (cA 0) 40 (fi (st S (12 + 8 * i) x)) = aJ (cA 0) 40 (fi S) := aJ_congr (fun k hk => st_n (by omega))
  have a6 : aJ (cA 0) 40 (pa (st S (12 + 8 * i) x)) = aJ (cA 0) 40 (pa S) := aJ_congr (fun k hk => st_n (by omega))
  have a7 : aJ (cA 0) 40 (re (st S (12 + 8 * i) x)) = aJ (cA 0) 40 (st (re S) i x) := aJ_congr (fun k hk => by
    unfold re st
    by_cases q : k = i
    · subst q; rw [if_pos rfl, if_pos rfl]
    · rw [if_neg q, if_neg (by omega)])
  have a8 : aJ (cA 1) 40 (di (st S (12 + 8 * i) x)) = aJ (cA 1) 40 (di S) := aJ_congr (fun k hk => st_n (by omega))
  have e0 : st S (12 + 8 * i) x 0 = S 0 := st_n (by omega)
  have e1 : st S (12 + 8 * i) x 1 = S 1 := st_n (by omega)
  have e2 : st S (12 + 8 * i) x 2 = S 2 := st_n (by omega)
  have e3 : st S (12 + 8 * i) x 3 = S 3 := st_n (by omega)
  have e4 : st S (12 + 8 * i) x 4 = S 4 := st_n (by omega)
  simp only [bk, List.set, a1, a2, a3, a4, a5, a6, a7, a8, e0, e1, e2, e3, e4]
theorem bk_ast8 {cA : Nat → ClassId} {b : Nat → Nat} {S : Int → Int} {i x : Int} (h : 0 ≤ i) : (bk cA b S).set 8 (b 8, aJ (cA 1) 40 (st (di S) i x)) = bk cA b (st S (9 + 8 * i) x) := by
  have a1 : aJ (cA 0) 40 (fr (st S (9 + 8 * i) x)) = aJ (cA 0) 40 (fr S) := aJ_congr (fun k hk => st_n (by omega))
  have a2 : aJ (cA 0) 40 (tO (st S (9 + 8 * i) x)) = aJ (cA 0) 40 (tO S) := aJ_congr (fun k hk => st_n (by omega))
  have a3 : aJ (cA 0) 40 (am (st S (9 + 8 * i) x)) = aJ (cA 0) 40 (am S) := aJ_congr (fun k hk => st_n (by omega))
  have a4 : aJ (cA 0) 40 (ra (st S (9 + 8 * i) x)) = aJ (cA 0) 40 (ra S) := aJ_congr (fun k hk => st_n (by omega))
  have a5 : aJ (cA 0) 40 (fi (st S (9 + 8 * i) x)) = aJ (cA 0) 40 (fi S) := aJ_congr (fun k hk => st_n (by omega))
  have a6 : aJ (cA 0) 40 (pa (st S (9 + 8 * i) x)) = aJ (cA 0) 40 (pa S) := aJ_congr (fun k hk => st_n (by omega))
  have a7 : aJ (cA 0) 40 (re (st S (9 + 8 * i) x)) = aJ (cA 0) 40 (re S) := aJ_congr (fun k hk => st_n (by omega))
  have a8 : aJ (cA 1) 40 (di (st S (9 + 8 * i) x)) = aJ (cA 1) 40 (st (di S) i x) := aJ_congr (fun k hk => by
    unfold di st
    by_cases q : k = i
    · subst q; rw [if_pos rfl, if_pos rfl]
    · rw [if_neg q, if_neg (by omega)])
  have e0 : st S (9 + 8 * i) x 0 = S 0 := st_n (by omega)
  have e1 : st S (9 + 8 * i) x 1 = S 1 := st_n (by omega)
  have e2 : st S (9 + 8 * i) x 2 = S 2 := st_n (by omega)
  have e3 : st S (9 + 8 * i) x 3 = S 3 := st_n (by omega)
  have e4 : st S (9 + 8 * i) x 4 = S 4 := st_n (by omega)
  simp only [bk, List.set, a1, a2, a3, a4, a5, a6, a7, a8, e0, e1, e2, e3, e4]
/-- sums over 0 .. n-1 -/
def sumN (f : Int → Int) : Nat → Int
  | 0 => 0
  | n + 1 => sumN f n + f n
def sumZ (f : Int → Int) (n : Int) : Int := sumN f n.toNat
theorem sumZ_0 (f : Int → Int) : sumZ f 0 = 0 := rfl
theorem sumZ_s (f : Int → Int) {i : Int} (h : 0 ≤ i) : sumZ f (i + 1) = sumZ f i + f i := by
  unfold sumZ
  rw [show (i + 1).toNat = i.toNat + 1 by omega, sumN, show ((i.toNat : Nat) : Int) = i by omega]
theorem sumN_congr {f g : Int → Int} : ∀ (n : Nat), (∀ k : Int, 0 ≤ k → k < n → f k = g k) → sumN f n = sumN g n
  | 0, _ => rfl
  | n + 1, h => by
    rw [sumN, sumN, sumN_congr n (fun k h0 h1 => h k h0 (by omega)), h n (by omega) (by omega)]
theorem sumZ_congr {f g : Int → Int} {n : Int} (h : ∀ k : Int, 0 ≤ k → k < n → f k = g k) : sumZ f n = sumZ g n := sumN_congr _ (fun k h0 h1 => h k h0 (by omega))
theorem sumN_bd {f : Int → Int} {a b : Int} : ∀ (n : Nat), (∀ k : Int, 0 ≤ k → k < n → a ≤ f k ∧ f k ≤ b) → a * n ≤ sumN f n ∧ sumN f n ≤ b * n
  | 0, _ => by simp [sumN]
  | n + 1, h => by
    have h1 := sumN_bd n (fun k h0 h1 => h k h0 (by omega))
    have h2 := h n (by omega) (by omega)
    rw [sumN, show ((n + 1 : Nat) : Int) = (n : Int) + 1 by omega, Int.mul_add, Int.mul_add]
    omega
theorem sumZ_bd {f : Int → Int} {a b n : Int} (hn : 0 ≤ n) (h : ∀ k : Int, 0 ≤ k → k < n → a ≤ f k ∧ f k ≤ b) : a * n ≤ sumZ f n ∧ sumZ f n ≤ b * n := by
  have := sumN_bd (f := f) (a := a) (b := b) n.toNat (fun k h0 h1 => h k h0 (by omega))
  rw [show ((n.toNat : Nat) : Int) = n by omega] at this
  exact this
/-- a state as it can be -/
def Inv (S : Int → Int) : Prop := (2 ≤ S 0 ∧ S 0 ≤ 7) ∧ (0 ≤ S 1 ∧ S 1 ≤ 40) ∧ ∀ k : Int, 0 ≤ k → k < S 1 → (0 ≤ fr S k ∧ fr S k < S 0) ∧ (0 ≤ tO S k ∧ tO S k < S 0) ∧ fr S k ≠ tO S k ∧ (0 ≤ am S k ∧ am S k ≤ 1000) ∧ (1 ≤ ra S k ∧ ra S k ≤ 9) ∧ (di S k = 0 ∨ di S k = 1)
def netF (S : Int → Int) (p k : Int) : Int := (if tO S k = p then am S k else 0) - (if fr S k = p then am S k else 0)
def netS (S : Int → Int) (p : Int) : Int := sumZ (netF S p) (S 1)
def debF (S : Int → Int) (a b k : Int) : Int := if fr S k = a ∧ tO S k = b ∧ di S k = 0 then am S k else 0
def debS (S : Int → Int) (a b : Int) : Int := sumZ (debF S a b) (S 1)
def gainS (S : Int → Int) : Int := sumZ (fun p => if netS S p > 0 then netS S p else 0) (S 0)
def opnS (S : Int → Int) : Int := sumZ (fun k => if am S k > 0 then 1 else 0) (S 1)
def disS (S : Int → Int) : Int := sumZ (fun k => di S k) (S 1)
def allS (S : Int → Int) : Int := sumZ (am S) (S 1)
def cosS (S : Int → Int) : Int := sumZ (fun k => am S k * ra S k) (S 1)
theorem netF_bd {S : Int → Int} (h : Inv S) (p : Int) {k : Int} (h0 : 0 ≤ k) (h1 : k < S 1) : -1000 ≤ netF S p k ∧ netF S p k ≤ 1000 := by
  have := (h.2.2 k h0 h1).2.2.2.1
  unfold netF
  omega
theorem netS_bd {S : Int → Int} (h : Inv S) (p : Int) : -40000 ≤ netS S p ∧ netS S p ≤ 40000 := by
  have := sumZ_bd (f := netF S p) h.2.1.1 (fun k h0 h1 => netF_bd h p h0 h1)
  have := h.2.1
  unfold netS
  omega
theorem debF_bd {S : Int → Int} (h : Inv S) (a b : Int) {k : Int} (h0 : 0 ≤ k) (h1 : k < S 1) : 0 ≤ debF S a b k ∧ debF S a b k ≤ 1000 := by
  have := (h.2.2 k h0 h1).2.2.2.1
  unfold debF
  split <;> omega
theorem debS_bd {S : Int → Int} (h : Inv S) (a b : Int) : 0 ≤ debS S a b ∧ debS S a b ≤ 40000 := by
  have := sumZ_bd (f := debF S a b) h.2.1.1 (fun k h0 h1 => debF_bd h a b h0 h1)
  have := h.2.1
  unfold debS
  omega
