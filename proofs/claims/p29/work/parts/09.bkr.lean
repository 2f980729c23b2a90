def bkR (cA : Nat → ClassId) (b : Nat → Nat) (x0 x1 x2 x3 x4 : Int) (f1 f2 f3 f4 f5 f6 f7 f8 : Int → Int) : va_W := [(b 0, .inr (0, [.int (iI x0), .int (iI x1), .int (iI x2), .int (iI x3), .int (iI x4), .ref (b 1), .ref (b 2), .ref (b 3), .ref (b 4), .ref (b 5), .ref (b 6), .ref (b 7), .ref (b 8)])), (b 1, aJ (cA 0) 40 f1), (b 2, aJ (cA 0) 40 f2), (b 3, aJ (cA 0) 40 f3), (b 4, aJ (cA 0) 40 f4), (b 5, aJ (cA 0) 40 f5), (b 6, aJ (cA 0) 40 f6), (b 7, aJ (cA 0) 40 f7), (b 8, aJ (cA 1) 40 f8)]
theorem bkR_put0 {cA : Nat → ClassId} {b : Nat → Nat} {x x0 x1 x2 x3 x4 : Int} {f1 f2 f3 f4 f5 f6 f7 f8 : Int → Int} : (bkR cA b x0 x1 x2 x3 x4 f1 f2 f3 f4 f5 f6 f7 f8).set 0 (b 0, .inr (0, ([.int (iI x0), .int (iI x1), .int (iI x2), .int (iI x3), .int (iI x4), .ref (b 1), .ref (b 2), .ref (b 3), .ref (b 4), .ref (b 5), .ref (b 6), .ref (b 7), .ref (b 8)] : List Value).set 0 (.int (iI x)))) = bkR cA b x x1 x2 x3 x4 f1 f2 f3 f4 f5 f6 f7 f8 := rfl
theorem bkR_put1 {cA : Nat → ClassId} {b : Nat → Nat} {x x0 x1 x2 x3 x4 : Int} {f1 f2 f3 f4 f5 f6 f7 f8 : Int → Int} : (bkR cA b x0 x1 x2 x3 x4 f1 f2 f3 f4 f5 f6 f7 f8).set 0 (b 0, .inr (0, ([.int (iI x0), .int (iI x1), .int (iI x2), .int (iI x3), .int (iI x4), .ref (b 1), .ref (b 2), .ref (b 3), .ref (b 4), .ref (b 5), .ref (b 6), .ref (b 7), .ref (b 8)] : List Value).set 1 (.int (iI x)))) = bkR cA b x0 x x2 x3 x4 f1 f2 f3 f4 f5 f6 f7 f8 := rfl
theorem bkR_put2 {cA : Nat → ClassId} {b : Nat → Nat} {x x0 x1 x2 x3 x4 : Int} {f1 f2 f3 f4 f5 f6 f7 f8 : Int → Int} : (bkR cA b x0 x1 x2 x3 x4 f1 f2 f3 f4 f5 f6 f7 f8).set 0 (b 0, .inr (0, ([.int (iI x0), .int (iI x1), .int (iI x2), .int (iI x3), .int (iI x4), .ref (b 1), .ref (b 2), .ref (b 3), .ref (b 4), .ref (b 5), .ref (b 6), .ref (b 7), .ref (b 8)] : List Value).set 2 (.int (iI x)))) = bkR cA b x0 x1 x x3 x4 f1 f2 f3 f4 f5 f6 f7 f8 := rfl
theorem bkR_put3 {cA : Nat → ClassId} {b : Nat → Nat} {x x0 x1 x2 x3 x4 : Int} {f1 f2 f3 f4 f5 f6 f7 f8 : Int → Int} : (bkR cA b x0 x1 x2 x3 x4 f1 f2 f3 f4 f5 f6 f7 f8).set 0 (b 0, .inr (0, ([.int (iI x0), .int (iI x1), .int (iI x2), .int (iI x3), .int (iI x4), .ref (b 1), .ref (b 2), .ref (b 3), .ref (b 4), .ref (b 5), .ref (b 6), .ref (b 7), .ref (b 8)] : List Value).set 3 (.int (iI x)))) = bkR cA b x0 x1 x2 x x4 f1 f2 f3 f4 f5 f6 f7 f8 := rfl
theorem bkR_put4 {cA : Nat → ClassId} {b : Nat → Nat} {x x0 x1 x2 x3 x4 : Int} {f1 f2 f3 f4 f5 f6 f7 f8 : Int → Int} : (bkR cA b x0 x1 x2 x3 x4 f1 f2 f3 f4 f5 f6 f7 f8).set 0 (b 0, .inr (0, ([.int (iI x0), .int (iI x1), .int (iI x2), .int (iI x3), .int (iI x4), .ref (b 1), .ref (b 2), .ref (b 3), .ref (b 4), .ref (b 5), .ref (b 6), .ref (b 7), .ref (b 8)] : List Value).set 4 (.int (iI x)))) = bkR cA b x0 x1 x2 x3 x f1 f2 f3 f4 f5 f6 f7 f8 := rfl
theorem bkR_ast1 {cA : Nat → ClassId} {b : Nat → Nat} {x0 x1 x2 x3 x4 : Int} {g f1 f2 f3 f4 f5 f6 f7 f8 : Int → Int} : (bkR cA b x0 x1 x2 x3 x4 f1 f2 f3 f4 f5 f6 f7 f8).set 1 (b 1, aJ (cA 0) 40 g) = bkR cA b x0 x1 x2 x3 x4 g f2 f3 f4 f5 f6 f7 f8 := rfl
theorem bkR_ast2 {cA : Nat → ClassId} {b : Nat → Nat} {x0 x1 x2 x3 x4 : Int} {g f1 f2 f3 f4 f5 f6 f7 f8 : Int → Int} : (bkR cA b x0 x1 x2 x3 x4 f1 f2 f3 f4 f5 f6 f7 f8).set 2 (b 2, aJ (cA 0) 40 g) = bkR cA b x0 x1 x2 x3 x4 f1 g f3 f4 f5 f6 f7 f8 := rfl
theorem bkR_ast3 {cA : Nat → ClassId} {b : Nat → Nat} {x0 x1 x2 x3 x4 : Int} {g f1 f2 f3 f4 f5 f6 f7 f8 : Int → Int} : (bkR cA b x0 x1 x2 x3 x4 f1 f2 f3 f4 f5 f6 f7 f8).set 3 (b 3, aJ (cA 0) 40 g) = bkR cA b x0 x1 x2 x3 x4 f1 f2 g f4 f5 f6 f7 f8 := rfl
theorem bkR_ast4 {cA : Nat → ClassId} {b : Nat → Nat} {x0 x1 x2 x3 x4 : Int} {g f1 f2 f3 f4 f5 f6 f7 f8 : Int → Int} : (bkR cA b x0 x1 x2 x3 x4 f1 f2 f3 f4 f5 f6 f7 f8).set 4 (b 4, aJ (cA 0) 40 g) = bkR cA b x0 x1 x2 x3 x4 f1 f2 f3 g f5 f6 f7 f8 := rfl
theorem bkR_ast5 {cA : Nat → ClassId} {b : Nat → Nat} {x0 x1 x2 x3 x4 : Int} {g f1 f2 f3 f4 f5 f6 f7 f8 : Int → Int} : (bkR cA b x0 x1 x2 x3 x4 f1 f2 f3 f4 f5 f6 f7 f8).set 5 (b 5, aJ (cA 0) 40 g) = bkR cA b x0 x1 x2 x3 x4 f1 f2 f3 f4 g f6 f7 f8 := rfl
theorem bkR_ast6 {cA : Nat → ClassId} {b : Nat → Nat} {x0 x1 x2 x3 x4 : Int} {g f1 f2 f3 f4 f5 f6 f7 f8 : Int → Int} : (bkR cA b x0 x1 x2 x3 x4 f1 f2 f3 f4 f5 f6 f7 f8).set 6 (b 6, aJ (cA 0) 40 g) = bkR cA b x0 x1 x2 x3 x4 f1 f2 f3 f4 f5 g f7 f8 := rfl
theorem bkR_ast7 {cA : Nat → ClassId} {b : Nat → Nat} {x0 x1 x2 x3 x4 : Int} {g f1 f2 f3 f4 f5 f6 f7 f8 : Int → Int} : (bkR cA b x0 x1 x2 x3 x4 f1 f2 f3 f4 f5 f6 f7 f8).set 7 (b 7, aJ (cA 0) 40 g) = bkR cA b x0 x1 x2 x3 x4 f1 f2 f3 f4 f5 f6 g f8 := rfl
theorem bkR_ast8 {cA : Nat → ClassId} {b : Nat → Nat} {x0 x1 x2 x3 x4 : Int} {g f1 f2 f3 f4 f5 f6 f7 f8 : Int → Int} : (bkR cA b x0 x1 x2 x3 x4 f1 f2 f3 f4 f5 f6 f7 f8).set 8 (b 8, aJ (cA 1) 40 g) = bkR cA b x0 x1 x2 x3 x4 f1 f2 f3 f4 f5 f6 f7 g := rfl
def iniS : Int → Int := fun j => if j = 0 then 4 else 0
def cpS (S T : Int → Int) : Int → Int := fun j => if j < 325 then T j else S j
theorem bkR_ini {cA : Nat → ClassId} {b : Nat → Nat} : bkR cA b 4 0 0 0 0 (fun _ => 0) (fun _ => 0) (fun _ => 0) (fun _ => 0) (fun _ => 0) (fun _ => 0) (fun _ => 0) (fun _ => 0) = bk cA b iniS := by
  have a1 : aJ (cA 0) 40 (fr iniS) = aJ (cA 0) 40 (fun _ => 0) := aJ_congr (fun k hk => if_neg (by omega))
  have a2 : aJ (cA 0) 40 (tO iniS) = aJ (cA 0) 40 (fun _ => 0) := aJ_congr (fun k hk => if_neg (by omega))
  have a3 : aJ (cA 0) 40 (am iniS) = aJ (cA 0) 40 (fun _ => 0) := aJ_congr (fun k hk => if_neg (by omega))
  have a4 : aJ (cA 0) 40 (ra iniS) = aJ (cA 0) 40 (fun _ => 0) := aJ_congr (fun k hk => if_neg (by omega))
  have a5 : aJ (cA 0) 40 (fi iniS) = aJ (cA 0) 40 (fun _ => 0) := aJ_congr (fun k hk => if_neg (by omega))
  have a6 : aJ (cA 0) 40 (pa iniS) = aJ (cA 0) 40 (fun _ => 0) := aJ_congr (fun k hk => if_neg (by omega))
  have a7 : aJ (cA 0) 40 (re iniS) = aJ (cA 0) 40 (fun _ => 0) := aJ_congr (fun k hk => if_neg (by omega))
  have a8 : aJ (cA 1) 40 (di iniS) = aJ (cA 1) 40 (fun _ => 0) := aJ_congr (fun k hk => if_neg (by omega))
  have e0 : iniS 0 = 4 := rfl
  have e1 : iniS 1 = 0 := rfl
  have e2 : iniS 2 = 0 := rfl
  have e3 : iniS 3 = 0 := rfl
  have e4 : iniS 4 = 0 := rfl
  simp only [bk, bkR, a1, a2, a3, a4, a5, a6, a7, a8, e0, e1, e2, e3, e4]
theorem bkR_cp {cA : Nat → ClassId} {b : Nat → Nat} {S T : Int → Int} : bkR cA b (T 0) (T 1) (T 2) (T 3) (T 4) (cpf 40 (fr T) (fr S)) (cpf 40 (tO T) (tO S)) (cpf 40 (am T) (am S)) (cpf 40 (ra T) (ra S)) (cpf 40 (fi T) (fi S)) (cpf 40 (pa T) (pa S)) (cpf 40 (re T) (re S)) (cpf 40 (di T) (di S)) = bk cA b (cpS S T) := by
  have a1 : aJ (cA 0) 40 (fr (cpS S T)) = aJ (cA 0) 40 (cpf 40 (fr T) (fr S)) := aJ_congr (fun k hk => by
    show (if 5 + 8 * k < 325 then T (5 + 8 * k) else S (5 + 8 * k)) = if 0 ≤ k ∧ k < 40 then T (5 + 8 * k) else S (5 + 8 * k)
    by_cases q : k < 40
    · rw [if_pos (show 5 + 8 * k < 325 by omega), if_pos (show 0 ≤ k ∧ k < 40 from ⟨hk, q⟩)]
    · rw [if_neg (show ¬ 5 + 8 * k < 325 by omega), if_neg (show ¬ (0 ≤ k ∧ k < 40) by omega)])
  have a2 : aJ (cA 0) 40 (tO (cpS S T)) = aJ (cA 0) 40 (cpf 40 (tO T) (tO S)) := aJ_congr (fun k hk => by
    show (if 6 + 8 * k < 325 then T (6 + 8 * k) else S (6 + 8 * k)) = if 0 ≤ k ∧ k < 40 then T (6 + 8 * k) else S (6 + 8 * k)
    by_cases q : k < 40
    · rw [if_pos (show 6 + 8 * k < 325 by omega), if_pos (show 0 ≤ k ∧ k < 40 from ⟨hk, q⟩)]
    · rw [if_neg (show ¬ 6 + 8 * k < 325 by omega), if_neg (show ¬ (0 ≤ k ∧ k < 40) by omega)])
  have a3 : aJ (cA 0) 40 (am (cpS S T)) = aJ (cA 0) 40 (cpf 40 (am T) (am S)) := aJ_congr (fun k hk => by
    show (if 7 + 8 * k < 325 then T (7 + 8 * k) else S (7 + 8 * k)) = if 0 ≤ k ∧ k < 40 then T (7 + 8 * k) else S (7 + 8 * k)
    by_cases q : k < 40
    · rw [if_pos (show 7 + 8 * k < 325 by omega), if_pos (show 0 ≤ k ∧ k < 40 from ⟨hk, q⟩)]
    · rw [if_neg (show ¬ 7 + 8 * k < 325 by omega), if_neg (show ¬ (0 ≤ k ∧ k < 40) by omega)])
  have a4 : aJ (cA 0) 40 (ra (cpS S T)) = aJ (cA 0) 40 (cpf 40 (ra T) (ra S)) := aJ_congr (fun k hk => by
    show (if 8 + 8 * k < 325 then T (8 + 8 * k) else S (8 + 8 * k)) = if 0 ≤ k ∧ k < 40 then T (8 + 8 * k) else S (8 + 8 * k)
    by_cases q : k < 40
    · rw [if_pos (show 8 + 8 * k < 325 by omega), if_pos (show 0 ≤ k ∧ k < 40 from ⟨hk, q⟩)]
    · rw [if_neg (show ¬ 8 + 8 * k < 325 by omega), if_neg (show ¬ (0 ≤ k ∧ k < 40) by omega)])
  have a5 : aJ (cA 0) 40 (fi (cpS S T)) = aJ (cA 0) 40 (cpf 40 (fi T) (fi S)) := aJ_congr (fun k hk => by
    show (if 10 + 8 * k < 325 then T (10 + 8 * k) else S (10 + 8 * k)) = if 0 ≤ k ∧ k < 40 then T (10 + 8 * k) else S (10 + 8 * k)
    by_cases q : k < 40
    · rw [if_pos (show 10 + 8 * k < 325 by omega), if_pos (show 0 ≤ k ∧ k < 40 from ⟨hk, q⟩)]
    · rw [if_neg (show ¬ 10 + 8 * k < 325 by omega), if_neg (show ¬ (0 ≤ k ∧ k < 40) by omega)])
  have a6 : aJ (cA 0) 40 (pa (cpS S T)) = aJ (cA 0) 40 (cpf 40 (pa T) (pa S)) := aJ_congr (fun k hk => by
    show (if 11 + 8 * k < 325 then T (11 + 8 * k) else S (11 + 8 * k)) = if 0 ≤ k ∧ k < 40 then T (11 + 8 * k) else S (11 + 8 * k)
    by_cases q : k < 40
    · rw [if_pos (show 11 + 8 * k < 325 by omega), if_pos (show 0 ≤ k ∧ k < 40 from ⟨hk, q⟩)]
    · rw [if_neg (show ¬ 11 + 8 * k < 325 by omega), if_neg (show ¬ (0 ≤ k ∧ k < 40) by omega)])
  have a7 : aJ (cA 0) 40 (re (cpS S T)) = aJ (cA 0) 40 (cpf 40 (re T) (re S)) := aJ_congr (fun k hk => by
    show (if 12 + 8 * k < 325 then T (12 + 8 * k) else S (12 + 8 * k)) = if 0 ≤ k ∧ k < 40 then T (12 + 8 * k) else S (12 + 8 * k)
    by_cases q : k < 40
    · rw [if_pos (show 12 + 8 * k < 325 by omega), if_pos (show 0 ≤ k ∧ k < 40 from ⟨hk, q⟩)]
    · rw [if_neg (show ¬ 12 + 8 * k < 325 by omega), if_neg (show ¬ (0 ≤ k ∧ k < 40) by omega)])
  have a8 : aJ (cA 1) 40 (di (cpS S T)) = aJ (cA 1) 40 (cpf 40 (di T) (di S)) := aJ_congr (fun k hk => by
    show (if 9 + 8 * k < 325 then T (9 + 8 * k) else S (9 + 8 * k)) = if 0 ≤ k ∧ k < 40 then T (9 + 8 * k) else S (9 + 8 * k)
    by_cases q : k < 40
    · rw [if_pos (show 9 + 8 * k < 325 by omega), if_pos (show 0 ≤ k ∧ k < 40 from ⟨hk, q⟩)]
    · rw [if_neg (show ¬ 9 + 8 * k < 325 by omega), if_neg (show ¬ (0 ≤ k ∧ k < 40) by omega)])
  have e0 : cpS S T 0 = T 0 := rfl
  have e1 : cpS S T 1 = T 1 := rfl
  have e2 : cpS S T 2 = T 2 := rfl
  have e3 : cpS S T 3 = T 3 := rfl
  have e4 : cpS S T 4 = T 4 := rfl
  simp only [bk, bkR, a1, a2, a3, a4, a5, a6, a7, a8, e0, e1, e2, e3, e4]
theorem cpf_st {f g : Int → Int} {i v : Int} (h0 : 0 ≤ i) (h : v = f i) : st (cpf i f g) i v = cpf (i + 1) f g := by
  funext k
  unfold st cpf
  by_cases q : k = i
  · subst q; rw [if_pos rfl, if_pos (by omega), h]
  · rw [if_neg q]
    by_cases q2 : 0 ≤ k ∧ k < i
    · rw [if_pos q2, if_pos (by omega)]
    · rw [if_neg q2, if_neg (by omega)]
theorem cpf_0 {f g : Int → Int} : cpf 0 f g = g := funext fun k => if_neg (by omega)
def ad9 (q q1 q2 q3 q4 q5 q6 q7 q8 : Nat) : Nat → Nat := fun i => match i with | 0 => q | 1 => q1 | 2 => q2 | 3 => q3 | 4 => q4 | 5 => q5 | 6 => q6 | 7 => q7 | _ => q8
/-- what stands in the disputes beyond the promises, too -/
def Inz (S : Int → Int) : Prop := ∀ k : Int, 0 ≤ k → k < 40 → di S k = 0 ∨ di S k = 1
def relP (S : Int → Int) (i x : Int) : Int → Int := st (st (st S (7 + 8 * i) (am S i - x)) (12 + 8 * i) (re (st S (7 + 8 * i) (am S i - x)) i + x)) 3 (st (st S (7 + 8 * i) (am S i - x)) (12 + 8 * i) (re (st S (7 + 8 * i) (am S i - x)) i + x) 3 + x)
def payP (S : Int → Int) (i x : Int) : Int → Int := st (st (st S (7 + 8 * i) (am S i - x)) (11 + 8 * i) (pa (st S (7 + 8 * i) (am S i - x)) i + x)) 2 (st (st S (7 + 8 * i) (am S i - x)) (11 + 8 * i) (pa (st S (7 + 8 * i) (am S i - x)) i + x) 2 + x)
def addP (S : Int → Int) (a b x r : Int) : Int → Int := let T := st (st (st (st (st (st (st (st S (5 + 8 * S 1) a) (6 + 8 * S 1) b) (7 + 8 * S 1) x) (8 + 8 * S 1) r) (10 + 8 * S 1) x) (11 + 8 * S 1) 0) (12 + 8 * S 1) 0) (9 + 8 * S 1) 0; st T 1 (T 1 + 1)
def rstP (S : Int → Int) (p : Int) : Int → Int := st (st (st (st (st S 0 p) 1 0) 2 0) 3 0) 4 0
