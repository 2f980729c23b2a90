/-! the orders' grammar -/
def pk (t : Int → Int) (n a : Int) : Int := if 0 ≤ a ∧ a < n then t a else -1
/-- how many figures, d at most; the number that they are -/
def fK (t : Int → Int) (n : Int) : Nat → Int → Int
  | 0, _ => 0
  | d + 1, a => if 48 ≤ pk t n a ∧ pk t n a ≤ 57 then fK t n d (a + 1) + 1 else 0
def fV (t : Int → Int) (n : Int) : Nat → Int → Int → Int
  | 0, _, v => v
  | d + 1, a, v => if 48 ≤ pk t n a ∧ pk t n a ≤ 57 then fV t n d (a + 1) (v * 10 + pk t n a - 48) else v
def fE (t : Int → Int) (n : Int) (d : Nat) (lo hi a : Int) : Int := if fK t n d a = 0 ∨ (48 ≤ pk t n (a + fK t n d a) ∧ pk t n (a + fK t n d a) ≤ 57) then a + fK t n d a else if fV t n d a 0 < lo ∨ hi < fV t n d a 0 then a else -1
def prE2 (t : Int → Int) (n b : Int) : Int := if pk t n b ≠ 44 then b else if pk t n (b + 1) < 49 ∨ 57 < pk t n (b + 1) then b + 1 else if pk t n (b + 2) ≠ 59 then b + 2 else -1
def prE (t : Int → Int) (n a : Int) : Int := if pk t n (a + 1) < 48 ∨ 54 < pk t n (a + 1) then a + 1 else if pk t n (a + 2) < 48 ∨ 54 < pk t n (a + 2) then a + 2 else if pk t n (a + 3) ≠ 58 then a + 3 else if fE t n 4 1 1000 (a + 4) ≠ -1 then fE t n 4 1 1000 (a + 4) else prE2 t n (a + 4 + fK t n 4 (a + 4))
def nuE (t : Int → Int) (n a : Int) : Int := if fE t n 2 0 99 (a + 1) ≠ -1 then fE t n 2 0 99 (a + 1) else if pk t n (a + 1 + fK t n 2 (a + 1)) ≠ 59 then a + 1 + fK t n 2 (a + 1) else -1
/-- the error of the order at a, -1 if it has none; where the next one begins -/
def ordE (t : Int → Int) (n a : Int) : Int := if pk t n a = 112 then prE t n a else if pk t n a = 120 ∨ pk t n a = 121 then nuE t n a else if pk t n a = 97 ∨ pk t n a = 98 then (if pk t n (a + 1) ≠ 59 then a + 1 else -1) else a
def ordN (t : Int → Int) (n a : Int) : Int := if pk t n a = 112 then a + 4 + fK t n 4 (a + 4) + 3 else if pk t n a = 120 ∨ pk t n a = 121 then a + 1 + fK t n 2 (a + 1) + 1 else a + 2
def syn (t : Int → Int) (n : Int) : Nat → Int → Int
  | 0, _ => -1
  | f + 1, a => if n ≤ a then -1 else if ordE t n a = -1 then syn t n f (ordN t n a) else ordE t n a
/-- the text: bytes -/
def TX (t : Int → Int) (n : Int) : Prop := (0 ≤ n ∧ n ≤ 100) ∧ ∀ i : Int, 0 ≤ i → i < n → 0 ≤ t i ∧ t i ≤ 127
theorem pk_bd {t : Int → Int} {n : Int} (h : TX t n) (a : Int) : -1 ≤ pk t n a ∧ pk t n a ≤ 127 := by
  unfold pk
  split
  · rename_i c
    have := h.2 a c.1 c.2
    omega
  · omega
theorem pk_inn {t : Int → Int} {n a : Int} (h : pk t n a ≠ -1) : 0 ≤ a ∧ a < n := by
  unfold pk at h
  split at h
  · assumption
  · exact absurd rfl h
theorem fK_bd (t : Int → Int) (n : Int) : ∀ (d : Nat) (a : Int), 0 ≤ fK t n d a ∧ fK t n d a ≤ d
  | 0, _ => ⟨Int.le_refl _, Int.le_refl _⟩
  | d + 1, a => by
    have := fK_bd t n d (a + 1)
    rw [fK]
    split <;> omega
theorem fK_n {t : Int → Int} {n : Int} : ∀ (d : Nat) (a : Int), 0 ≤ a → a ≤ n → a + fK t n d a ≤ n
  | 0, a, _, h => by rw [fK]; omega
  | d + 1, a, h0, h => by
    rw [fK]
    split
    · rename_i c
      have := pk_inn (show pk t n a ≠ -1 by omega)
      have := fK_n (t := t) (n := n) d (a + 1) (by omega) (by omega)
      omega
    · omega
theorem fK_s {t : Int → Int} {n : Int} {d : Nat} {a : Int} (h : 48 ≤ pk t n a ∧ pk t n a ≤ 57) : fK t n (d + 1) a = fK t n d (a + 1) + 1 := if_pos h
theorem fV_s {t : Int → Int} {n : Int} {d : Nat} {a v : Int} (h : 48 ≤ pk t n a ∧ pk t n a ≤ 57) : fV t n (d + 1) a v = fV t n d (a + 1) (v * 10 + pk t n a - 48) := if_pos h
theorem fK_e {t : Int → Int} {n : Int} {d : Nat} {a : Int} (h : ¬ (48 ≤ pk t n a ∧ pk t n a ≤ 57)) : fK t n d a = 0 := by
  cases d with
  | zero => rfl
  | succ d => exact if_neg h
theorem fV_e {t : Int → Int} {n : Int} {d : Nat} {a v : Int} (h : ¬ (48 ≤ pk t n a ∧ pk t n a ≤ 57)) : fV t n d a v = v := by
  cases d with
  | zero => rfl
  | succ d => exact if_neg h
def orO (o : Nat → Nat) (O : Int → Int) : va_W := [(o 0, .inr (2, [.ref (o 1), .int (iI (O 0)), .int (iI (O 1)), .int (iI (O 2)), .int (iI (O 3)), .int (iI (O 4)), .int (iI (O 5)), .int (iI (O 6)), .int (iI (O 7)), .int (iI (O 8))]))]
theorem orO_put0 {o : Nat → Nat} {O : Int → Int} {x : Int} : (orO o O).set 0 (o 0, .inr (2, ([.ref (o 1), .int (iI (O 0)), .int (iI (O 1)), .int (iI (O 2)), .int (iI (O 3)), .int (iI (O 4)), .int (iI (O 5)), .int (iI (O 6)), .int (iI (O 7)), .int (iI (O 8))] : List Value).set 1 (.int (iI x)))) = orO o (st O 0 x) := rfl
theorem orO_put1 {o : Nat → Nat} {O : Int → Int} {x : Int} : (orO o O).set 0 (o 0, .inr (2, ([.ref (o 1), .int (iI (O 0)), .int (iI (O 1)), .int (iI (O 2)), .int (iI (O 3)), .int (iI (O 4)), .int (iI (O 5)), .int (iI (O 6)), .int (iI (O 7)), .int (iI (O 8))] : List Value).set 2 (.int (iI x)))) = orO o (st O 1 x) := rfl
theorem orO_put2 {o : Nat → Nat} {O : Int → Int} {x : Int} : (orO o O).set 0 (o 0, .inr (2, ([.ref (o 1), .int (iI (O 0)), .int (iI (O 1)), .int (iI (O 2)), .int (iI (O 3)), .int (iI (O 4)), .int (iI (O 5)), .int (iI (O 6)), .int (iI (O 7)), .int (iI (O 8))] : List Value).set 3 (.int (iI x)))) = orO o (st O 2 x) := rfl
theorem orO_put3 {o : Nat → Nat} {O : Int → Int} {x : Int} : (orO o O).set 0 (o 0, .inr (2, ([.ref (o 1), .int (iI (O 0)), .int (iI (O 1)), .int (iI (O 2)), .int (iI (O 3)), .int (iI (O 4)), .int (iI (O 5)), .int (iI (O 6)), .int (iI (O 7)), .int (iI (O 8))] : List Value).set 4 (.int (iI x)))) = orO o (st O 3 x) := rfl
theorem orO_put4 {o : Nat → Nat} {O : Int → Int} {x : Int} : (orO o O).set 0 (o 0, .inr (2, ([.ref (o 1), .int (iI (O 0)), .int (iI (O 1)), .int (iI (O 2)), .int (iI (O 3)), .int (iI (O 4)), .int (iI (O 5)), .int (iI (O 6)), .int (iI (O 7)), .int (iI (O 8))] : List Value).set 5 (.int (iI x)))) = orO o (st O 4 x) := rfl
theorem orO_put5 {o : Nat → Nat} {O : Int → Int} {x : Int} : (orO o O).set 0 (o 0, .inr (2, ([.ref (o 1), .int (iI (O 0)), .int (iI (O 1)), .int (iI (O 2)), .int (iI (O 3)), .int (iI (O 4)), .int (iI (O 5)), .int (iI (O 6)), .int (iI (O 7)), .int (iI (O 8))] : List Value).set 6 (.int (iI x)))) = orO o (st O 5 x) := rfl
theorem orO_put6 {o : Nat → Nat} {O : Int → Int} {x : Int} : (orO o O).set 0 (o 0, .inr (2, ([.ref (o 1), .int (iI (O 0)), .int (iI (O 1)), .int (iI (O 2)), .int (iI (O 3)), .int (iI (O 4)), .int (iI (O 5)), .int (iI (O 6)), .int (iI (O 7)), .int (iI (O 8))] : List Value).set 7 (.int (iI x)))) = orO o (st O 6 x) := rfl
theorem orO_put7 {o : Nat → Nat} {O : Int → Int} {x : Int} : (orO o O).set 0 (o 0, .inr (2, ([.ref (o 1), .int (iI (O 0)), .int (iI (O 1)), .int (iI (O 2)), .int (iI (O 3)), .int (iI (O 4)), .int (iI (O 5)), .int (iI (O 6)), .int (iI (O 7)), .int (iI (O 8))] : List Value).set 8 (.int (iI x)))) = orO o (st O 7 x) := rfl
theorem orO_put8 {o : Nat → Nat} {O : Int → Int} {x : Int} : (orO o O).set 0 (o 0, .inr (2, ([.ref (o 1), .int (iI (O 0)), .int (iI (O 1)), .int (iI (O 2)), .int (iI (O 3)), .int (iI (O 4)), .int (iI (O 5)), .int (iI (O 6)), .int (iI (O 7)), .int (iI (O 8))] : List Value).set 9 (.int (iI x)))) = orO o (st O 8 x) := rfl
/-- what a digit, a sign, a number leave -/
def KP (O u : Int → Int) : Prop := u 0 = O 0 ∧ ∀ j : Int, 3 ≤ j → u j = O j
def DG (t O : Int → Int) (lo hi x : Int) (u : Int → Int) : Prop := KP O u ∧ ((lo ≤ pk t (O 0) (O 1) - 48 ∧ pk t (O 0) (O 1) - 48 ≤ hi ∧ x = pk t (O 0) (O 1) - 48 ∧ u 1 = O 1 + 1 ∧ u 2 = O 2) ∨ ((pk t (O 0) (O 1) - 48 < lo ∨ hi < pk t (O 0) (O 1) - 48) ∧ x = -1 ∧ u 1 = O 1 ∧ u 2 = O 1))
def SG (t O : Int → Int) (w x : Int) (u : Int → Int) : Prop := KP O u ∧ ((pk t (O 0) (O 1) = w ∧ x = 1 ∧ u 1 = O 1 + 1 ∧ u 2 = O 2) ∨ (pk t (O 0) (O 1) ≠ w ∧ x = 0 ∧ u 1 = O 1 ∧ u 2 = O 1))
def NG (t O : Int → Int) (d : Nat) (lo hi x : Int) (u : Int → Int) : Prop := KP O u ∧ (u 1 = O 1 + fK t (O 0) d (O 1)) ∧ ((fE t (O 0) d lo hi (O 1) = -1 ∧ x = fV t (O 0) d (O 1) 0 ∧ u 2 = O 2 ∧ 0 < fK t (O 0) d (O 1) ∧ lo ≤ x ∧ x ≤ hi) ∨ (fE t (O 0) d lo hi (O 1) ≠ -1 ∧ x = -1 ∧ u 2 = fE t (O 0) d lo hi (O 1)))
theorem KP_st {O u : Int → Int} {i v : Int} (h : KP O u) (hi : 1 ≤ i ∧ i ≤ 2) : KP O (st u i v) := ⟨by rw [st_n (by omega)]; exact h.1, fun j hj => by rw [st_n (by omega)]; exact h.2 j hj⟩
theorem KP_r (O : Int → Int) : KP O O := ⟨rfl, fun _ _ => rfl⟩
theorem KP_t {O u w : Int → Int} (h : KP O u) (h2 : KP u w) : KP O w := ⟨h2.1.trans h.1, fun j hj => (h2.2 j hj).trans (h.2 j hj)⟩
/-- the marks of the text lie in it -/
def OB (t O : Int → Int) : Prop := TX t (O 0) ∧ (0 ≤ O 1 ∧ O 1 ≤ O 0)
