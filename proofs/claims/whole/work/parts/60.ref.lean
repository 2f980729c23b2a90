/-! the reference: its object, its small methods -/
def mO (a : Nat → Nat) (G : Int → Int) : va_W := [(a 0, .inr (6, [.ref (a 1), .ref (a 2), .ref (a 3), .int (iI (G 0)), .ref (a 4), .int (iI (G 1)), .int (iI (G 2)), .ref (a 5), .ref (a 6), .int (iI (G 3)), .ref (a 7), .ref (a 8), .int (iI (G 4)), .int (iI (G 5)), .int (iI (G 6)), .ref (a 9), .int (iI (G 7)), .ref (a 10), .ref (a 11), .ref (a 12), .ref (a 13), .int (iI (G 8)), .int (iI (G 9)), .int (iI (G 10)), .int (iI (G 11)), .ref (a 14), .ref (a 15), .ref (a 16), .ref (a 17), .ref (a 18)]))]
theorem mO_put0 {a : Nat → Nat} {G : Int → Int} {x : Int} : (mO a G).set 0 (a 0, .inr (6, ([.ref (a 1), .ref (a 2), .ref (a 3), .int (iI (G 0)), .ref (a 4), .int (iI (G 1)), .int (iI (G 2)), .ref (a 5), .ref (a 6), .int (iI (G 3)), .ref (a 7), .ref (a 8), .int (iI (G 4)), .int (iI (G 5)), .int (iI (G 6)), .ref (a 9), .int (iI (G 7)), .ref (a 10), .ref (a 11), .ref (a 12), .ref (a 13), .int (iI (G 8)), .int (iI (G 9)), .int (iI (G 10)), .int (iI (G 11)), .ref (a 14), .ref (a 15), .ref (a 16), .ref (a 17), .ref (a 18)] : List Value).set 3 (.int (iI x)))) = mO a (st G 0 x) := rfl
theorem mO_put1 {a : Nat → Nat} {G : Int → Int} {x : Int} : (mO a G).set 0 (a 0, .inr (6, ([.ref (a 1), .ref (a 2), .ref (a 3), .int (iI (G 0)), .ref (a 4), .int (iI (G 1)), .int (iI (G 2)), .ref (a 5), .ref (a 6), .int (iI (G 3)), .ref (a 7), .ref (a 8), .int (iI (G 4)), .int (iI (G 5)), .int (iI (G 6)), .ref (a 9), .int (iI (G 7)), .ref (a 10), .ref (a 11), .ref (a 12), .ref (a 13), .int (iI (G 8)), .int (iI (G 9)), .int (iI (G 10)), .int (iI (G 11)), .ref (a 14), .ref (a 15), .ref (a 16), .ref (a 17), .ref (a 18)] : List Value).set 5 (.int (iI x)))) = mO a (st G 1 x) := rfl
theorem mO_put2 {a : Nat → Nat} {G : Int → Int} {x : Int} : (mO a G).set 0 (a 0, .inr (6, ([.ref (a 1), .ref (a 2), .ref (a 3), .int (iI (G 0)), .ref (a 4), .int (iI (G 1)), .int (iI (G 2)), .ref (a 5), .ref (a 6), .int (iI (G 3)), .ref (a 7), .ref (a 8), .int (iI (G 4)), .int (iI (G 5)), .int (iI (G 6)), .ref (a 9), .int (iI (G 7)), .ref (a 10), .ref (a 11), .ref (a 12), .ref (a 13), .int (iI (G 8)), .int (iI (G 9)), .int (iI (G 10)), .int (iI (G 11)), .ref (a 14), .ref (a 15), .ref (a 16), .ref (a 17), .ref (a 18)] : List Value).set 6 (.int (iI x)))) = mO a (st G 2 x) := rfl
theorem mO_put3 {a : Nat → Nat} {G : Int → Int} {x : Int} : (mO a G).set 0 (a 0, .inr (6, ([.ref (a 1), .ref (a 2), .ref (a 3), .int (iI (G 0)), .ref (a 4), .int (iI (G 1)), .int (iI (G 2)), .ref (a 5), .ref (a 6), .int (iI (G 3)), .ref (a 7), .ref (a 8), .int (iI (G 4)), .int (iI (G 5)), .int (iI (G 6)), .ref (a 9), .int (iI (G 7)), .ref (a 10), .ref (a 11), .ref (a 12), .ref (a 13), .int (iI (G 8)), .int (iI (G 9)), .int (iI (G 10)), .int (iI (G 11)), .ref (a 14), .ref (a 15), .ref (a 16), .ref (a 17), .ref (a 18)] : List Value).set 9 (.int (iI x)))) = mO a (st G 3 x) := rfl
theorem mO_put4 {a : Nat → Nat} {G : Int → Int} {x : Int} : (mO a G).set 0 (a 0, .inr (6, ([.ref (a 1), .ref (a 2), .ref (a 3), .int (iI (G 0)), .ref (a 4), .int (iI (G 1)), .int (iI (G 2)), .ref (a 5), .ref (a 6), .int (iI (G 3)), .ref (a 7), .ref (a 8), .int (iI (G 4)), .int (iI (G 5)), .int (iI (G 6)), .ref (a 9), .int (iI (G 7)), .ref (a 10), .ref (a 11), .ref (a 12), .ref (a 13), .int (iI (G 8)), .int (iI (G 9)), .int (iI (G 10)), .int (iI (G 11)), .ref (a 14), .ref (a 15), .ref (a 16), .ref (a 17), .ref (a 18)] : List Value).set 12 (.int (iI x)))) = mO a (st G 4 x) := rfl
theorem mO_put5 {a : Nat → Nat} {G : Int → Int} {x : Int} : (mO a G).set 0 (a 0, .inr (6, ([.ref (a 1), .ref (a 2), .ref (a 3), .int (iI (G 0)), .ref (a 4), .int (iI (G 1)), .int (iI (G 2)), .ref (a 5), .ref (a 6), .int (iI (G 3)), .ref (a 7), .ref (a 8), .int (iI (G 4)), .int (iI (G 5)), .int (iI (G 6)), .ref (a 9), .int (iI (G 7)), .ref (a 10), .ref (a 11), .ref (a 12), .ref (a 13), .int (iI (G 8)), .int (iI (G 9)), .int (iI (G 10)), .int (iI (G 11)), .ref (a 14), .ref (a 15), .ref (a 16), .ref (a 17), .ref (a 18)] : List Value).set 13 (.int (iI x)))) = mO a (st G 5 x) := rfl
theorem mO_put6 {a : Nat → Nat} {G : Int → Int} {x : Int} : (mO a G).set 0 (a 0, .inr (6, ([.ref (a 1), .ref (a 2), .ref (a 3), .int (iI (G 0)), .ref (a 4), .int (iI (G 1)), .int (iI (G 2)), .ref (a 5), .ref (a 6), .int (iI (G 3)), .ref (a 7), .ref (a 8), .int (iI (G 4)), .int (iI (G 5)), .int (iI (G 6)), .ref (a 9), .int (iI (G 7)), .ref (a 10), .ref (a 11), .ref (a 12), .ref (a 13), .int (iI (G 8)), .int (iI (G 9)), .int (iI (G 10)), .int (iI (G 11)), .ref (a 14), .ref (a 15), .ref (a 16), .ref (a 17), .ref (a 18)] : List Value).set 14 (.int (iI x)))) = mO a (st G 6 x) := rfl
theorem mO_put7 {a : Nat → Nat} {G : Int → Int} {x : Int} : (mO a G).set 0 (a 0, .inr (6, ([.ref (a 1), .ref (a 2), .ref (a 3), .int (iI (G 0)), .ref (a 4), .int (iI (G 1)), .int (iI (G 2)), .ref (a 5), .ref (a 6), .int (iI (G 3)), .ref (a 7), .ref (a 8), .int (iI (G 4)), .int (iI (G 5)), .int (iI (G 6)), .ref (a 9), .int (iI (G 7)), .ref (a 10), .ref (a 11), .ref (a 12), .ref (a 13), .int (iI (G 8)), .int (iI (G 9)), .int (iI (G 10)), .int (iI (G 11)), .ref (a 14), .ref (a 15), .ref (a 16), .ref (a 17), .ref (a 18)] : List Value).set 16 (.int (iI x)))) = mO a (st G 7 x) := rfl
theorem mO_put8 {a : Nat → Nat} {G : Int → Int} {x : Int} : (mO a G).set 0 (a 0, .inr (6, ([.ref (a 1), .ref (a 2), .ref (a 3), .int (iI (G 0)), .ref (a 4), .int (iI (G 1)), .int (iI (G 2)), .ref (a 5), .ref (a 6), .int (iI (G 3)), .ref (a 7), .ref (a 8), .int (iI (G 4)), .int (iI (G 5)), .int (iI (G 6)), .ref (a 9), .int (iI (G 7)), .ref (a 10), .ref (a 11), .ref (a 12), .ref (a 13), .int (iI (G 8)), .int (iI (G 9)), .int (iI (G 10)), .int (iI (G 11)), .ref (a 14), .ref (a 15), .ref (a 16), .ref (a 17), .ref (a 18)] : List Value).set 21 (.int (iI x)))) = mO a (st G 8 x) := rfl
theorem mO_put9 {a : Nat → Nat} {G : Int → Int} {x : Int} : (mO a G).set 0 (a 0, .inr (6, ([.ref (a 1), .ref (a 2), .ref (a 3), .int (iI (G 0)), .ref (a 4), .int (iI (G 1)), .int (iI (G 2)), .ref (a 5), .ref (a 6), .int (iI (G 3)), .ref (a 7), .ref (a 8), .int (iI (G 4)), .int (iI (G 5)), .int (iI (G 6)), .ref (a 9), .int (iI (G 7)), .ref (a 10), .ref (a 11), .ref (a 12), .ref (a 13), .int (iI (G 8)), .int (iI (G 9)), .int (iI (G 10)), .int (iI (G 11)), .ref (a 14), .ref (a 15), .ref (a 16), .ref (a 17), .ref (a 18)] : List Value).set 22 (.int (iI x)))) = mO a (st G 9 x) := rfl
theorem mO_put10 {a : Nat → Nat} {G : Int → Int} {x : Int} : (mO a G).set 0 (a 0, .inr (6, ([.ref (a 1), .ref (a 2), .ref (a 3), .int (iI (G 0)), .ref (a 4), .int (iI (G 1)), .int (iI (G 2)), .ref (a 5), .ref (a 6), .int (iI (G 3)), .ref (a 7), .ref (a 8), .int (iI (G 4)), .int (iI (G 5)), .int (iI (G 6)), .ref (a 9), .int (iI (G 7)), .ref (a 10), .ref (a 11), .ref (a 12), .ref (a 13), .int (iI (G 8)), .int (iI (G 9)), .int (iI (G 10)), .int (iI (G 11)), .ref (a 14), .ref (a 15), .ref (a 16), .ref (a 17), .ref (a 18)] : List Value).set 23 (.int (iI x)))) = mO a (st G 10 x) := rfl
theorem mO_put11 {a : Nat → Nat} {G : Int → Int} {x : Int} : (mO a G).set 0 (a 0, .inr (6, ([.ref (a 1), .ref (a 2), .ref (a 3), .int (iI (G 0)), .ref (a 4), .int (iI (G 1)), .int (iI (G 2)), .ref (a 5), .ref (a 6), .int (iI (G 3)), .ref (a 7), .ref (a 8), .int (iI (G 4)), .int (iI (G 5)), .int (iI (G 6)), .ref (a 9), .int (iI (G 7)), .ref (a 10), .ref (a 11), .ref (a 12), .ref (a 13), .int (iI (G 8)), .int (iI (G 9)), .int (iI (G 10)), .int (iI (G 11)), .ref (a 14), .ref (a 15), .ref (a 16), .ref (a 17), .ref (a 18)] : List Value).set 24 (.int (iI x)))) = mO a (st G 11 x) := rfl
/-- a piece copied into an array -/
def cpA (f g : Int → Int) (i j n : Int) : Int → Int := fun k => if j ≤ k ∧ k < j + n then f (i + (k - j)) else g k
set_option maxHeartbeats 4000000 in
set_option maxRecDepth 100000 in
theorem c_X6_thrown (l : Launch) (D : va_G) (cA : Nat → ClassId) (a : Nat → Nat) (G : Int → Int)  : MI (U := Unit) l yX6_thrown cX6_thrown 1 (some .int) (rmN 1 0 0) D cA [.ref (a 0)] [mO a G] (fun x _ => x = G 2) (fun _ => [mO a G]) := by
  refine m_startI pn_X6 rfl (List.forall_mem_cons.mpr ⟨rfl, fun _ h => absurd h List.not_mem_nil⟩) (Nat.le_of_ble_eq_true rfl) ?_
  intro K C e1 e2 e3 hin hR
  subst e1 e2 e3
  show J K 0 0 [mO a G] [some (.ref (a 0))] 0 []
  refine j_aload_n C dX6_thrown_0 rfl ?_
  refine j_get C 0 0 6 rfl rfl rfl wU_X6 (by decide) wF_X6_64 rfl dX6_thrown_1 ?_
  exact hR () dX6_thrown_4 (by rfl) rfl (Nat.le_of_ble_eq_true rfl) (Nat.le_of_ble_eq_true rfl)
set_option maxHeartbeats 4000000 in
set_option maxRecDepth 100000 in
theorem c_X6_in (l : Launch) (D : va_G) (cA : Nat → ClassId) (v lo hi : Int) (hv : -2147483648 ≤ v ∧ v < 2147483648) (hlo : -2147483648 ≤ lo ∧ lo < 2147483648) (hhi : -2147483648 ≤ hi ∧ hi < 2147483648) : MI (U := Unit) l yX6_in cX6_in 3 (some .boolean) (rmN 1 0 0) D cA [.int (iI v), .int (iI lo), .int (iI hi)] [] (fun x _ => x = if lo ≤ v ∧ v ≤ hi then 1 else 0) (fun _ => []) := by
  refine m_startZ pn_X6 rfl (List.forall_mem_cons.mpr ⟨rfl, List.forall_mem_cons.mpr ⟨rfl, List.forall_mem_cons.mpr ⟨rfl, fun _ h => absurd h List.not_mem_nil⟩⟩⟩) (Nat.le_of_ble_eq_true rfl) ?_
  intro K C e1 e2 e3 hin hR
  subst e1 e2 e3
  show J K 0 0 [] [some (.int (iI v)), some (.int (iI lo)), some (.int (iI hi))] 0 []
  refine j_iload_n C dX6_in_0 rfl ?_
  refine j_iload_n C dX6_in_1 rfl ?_
  refine j_icmp_lt (tgt := 14) C dX6_in_2 (by decide) (by omega) (by omega) (by omega) (by omega) (fun c2 => ?_) (fun c2 => ?_)
  · refine j_iconst C dX6_in_14 ?_
    exact hR () dX6_in_15 (by omega) (by first | (rw [if_pos (by omega)]; done) | (rw [if_neg (by omega)]; done)) rfl (Nat.le_of_ble_eq_true rfl) (Nat.le_of_ble_eq_true rfl)
  · refine j_iload_n C dX6_in_5 rfl ?_
    refine j_iload_n C dX6_in_6 rfl ?_
    refine j_icmp_gt (tgt := 14) C dX6_in_7 (by decide) (by omega) (by omega) (by omega) (by omega) (fun c7 => ?_) (fun c7 => ?_)
    · refine j_iconst C dX6_in_14 ?_
      exact hR () dX6_in_15 (by omega) (by first | (rw [if_pos (by omega)]; done) | (rw [if_neg (by omega)]; done)) rfl (Nat.le_of_ble_eq_true rfl) (Nat.le_of_ble_eq_true rfl)
    · refine j_iconst C dX6_in_10 ?_
      refine j_goto (tgt := 15) C dX6_in_11 (by decide) ?_
      exact hR () dX6_in_15 (by omega) (by first | (rw [if_pos (by omega)]; done) | (rw [if_neg (by omega)]; done)) rfl (Nat.le_of_ble_eq_true rfl) (Nat.le_of_ble_eq_true rfl)
set_option maxHeartbeats 4000000 in
set_option maxRecDepth 100000 in
theorem c_X6_goes (l : Launch) (D : va_G) (cA : Nat → ClassId) (a : Nat → Nat) (G : Int → Int) (x y z : Int) (hx : x = 0 ∨ x = 1) (hy : y = 0 ∨ y = 1) (hz : z = 0 ∨ z = 1) : MI (U := Int) l yX6_goes cX6_goes 4 (some .boolean) (rmN 1 0 0) D cA [.ref (a 0), .int (iI x), .int (iI y), .int (iI z)] [mO a G] (fun w u => u = (if x = 1 then 1 else if y = 1 then 2 else if z = 1 then 3 else 0) ∧ w = if u = 0 then 1 else 0) (fun u => [mO a (st G 2 u)]) := by
  refine m_startZ pn_X6 rfl (List.forall_mem_cons.mpr ⟨rfl, List.forall_mem_cons.mpr ⟨rfl, List.forall_mem_cons.mpr ⟨rfl, List.forall_mem_cons.mpr ⟨rfl, fun _ h => absurd h List.not_mem_nil⟩⟩⟩⟩) (Nat.le_of_ble_eq_true rfl) ?_
  intro K C e1 e2 e3 hin hR
  subst e1 e2 e3
  show J K 0 0 [mO a G] [some (.ref (a 0)), some (.int (iI x)), some (.int (iI y)), some (.int (iI z))] 0 []
  have L26 : ∀ (k : Int) (hk : k = if x = 1 then 1 else if y = 1 then 2 else if z = 1 then 3 else 0), J K 0 0 [mO a G] [some (.ref (a 0)), some (.int (iI x)), some (.int (iI y)), some (.int (iI z))] 26 [.int (iI k), .ref (a 0)] := by
    intro k hk
    have hkb : 0 ≤ k ∧ k ≤ 3 := by rw [hk]; split; (omega); (split; (omega); (split <;> omega))
    have ek : st G 2 k 2 = k := st_s _ _ _
    refine j_put_p0 C 0 6 rfl mO_put2 rfl wU_X6 tyX6_ok nmX6 (by decide) wF_X6_64 rfl rfl rfl (Nat.le_of_ble_eq_true rfl) dX6_goes_26 ?_
    refine j_aload_n C dX6_goes_29 rfl ?_
    refine j_get C 0 0 6 rfl rfl rfl wU_X6 (by decide) wF_X6_64 rfl dX6_goes_30 ?_
    refine j_if_ne (tgt := 40) C dX6_goes_33 (by decide) (by omega) (by omega) (fun c33 => ?_) (fun c33 => ?_)
    · refine j_iconst C dX6_goes_40 ?_
      exact hR k dX6_goes_41 (by omega) (by refine ⟨hk, ?_⟩; first | (rw [if_pos (by omega)]; done) | (rw [if_neg (by omega)]; done)) rfl (Nat.le_of_ble_eq_true rfl) (Nat.le_of_ble_eq_true rfl)
    · refine j_iconst C dX6_goes_36 ?_
      refine j_goto (tgt := 41) C dX6_goes_37 (by decide) ?_
      exact hR k dX6_goes_41 (by omega) (by refine ⟨hk, ?_⟩; first | (rw [if_pos (by omega)]; done) | (rw [if_neg (by omega)]; done)) rfl (Nat.le_of_ble_eq_true rfl) (Nat.le_of_ble_eq_true rfl)
  refine j_aload_n C dX6_goes_0 rfl ?_
  refine j_iload_n C dX6_goes_1 rfl ?_
  refine j_if_eq (tgt := 9) C dX6_goes_2 (by decide) (by omega) (by omega) (fun c2 => ?_) (fun c2 => ?_)
  · refine j_iload_n C dX6_goes_9 rfl ?_
    refine j_if_eq (tgt := 17) C dX6_goes_10 (by decide) (by omega) (by omega) (fun c10 => ?_) (fun c10 => ?_)
    · refine j_iload_n C dX6_goes_17 rfl ?_
      refine j_if_eq (tgt := 25) C dX6_goes_18 (by decide) (by omega) (by omega) (fun c18 => ?_) (fun c18 => ?_)
      · refine j_iconst C dX6_goes_25 ?_
        exact L26 _ (by first | (rw [if_pos (by omega)]; done) | (rw [if_neg (by omega), if_pos (by omega)]; done) | (rw [if_neg (by omega), if_neg (by omega), if_pos (by omega)]; done) | (rw [if_neg (by omega), if_neg (by omega), if_neg (by omega)]; done))
      · refine j_iconst C dX6_goes_21 ?_
        refine j_goto (tgt := 26) C dX6_goes_22 (by decide) ?_
        exact L26 _ (by first | (rw [if_pos (by omega)]; done) | (rw [if_neg (by omega), if_pos (by omega)]; done) | (rw [if_neg (by omega), if_neg (by omega), if_pos (by omega)]; done) | (rw [if_neg (by omega), if_neg (by omega), if_neg (by omega)]; done))
    · refine j_iconst C dX6_goes_13 ?_
      refine j_goto (tgt := 26) C dX6_goes_14 (by decide) ?_
      exact L26 _ (by first | (rw [if_pos (by omega)]; done) | (rw [if_neg (by omega), if_pos (by omega)]; done) | (rw [if_neg (by omega), if_neg (by omega), if_pos (by omega)]; done) | (rw [if_neg (by omega), if_neg (by omega), if_neg (by omega)]; done))
  · refine j_iconst C dX6_goes_5 ?_
    refine j_goto (tgt := 26) C dX6_goes_6 (by decide) ?_
    exact L26 _ (by first | (rw [if_pos (by omega)]; done) | (rw [if_neg (by omega), if_pos (by omega)]; done) | (rw [if_neg (by omega), if_neg (by omega), if_pos (by omega)]; done) | (rw [if_neg (by omega), if_neg (by omega), if_neg (by omega)]; done))
set_option maxHeartbeats 4000000 in
set_option maxRecDepth 100000 in
theorem c_X6_p (l : Launch) (D : va_G) (cA : Nat → ClassId) (k w : Int)  : MI (U := Unit) l yX6_p cX6_p 2 (some .int) (rmN 1 0 0) D cA [.int (iI k), .int (iI w)] [] (fun x _ => x = 5 + 8 * k + w) (fun _ => []) := by
  refine m_startI pn_X6 rfl (List.forall_mem_cons.mpr ⟨rfl, List.forall_mem_cons.mpr ⟨rfl, fun _ h => absurd h List.not_mem_nil⟩⟩) (Nat.le_of_ble_eq_true rfl) ?_
  intro K C e1 e2 e3 hin hR
  subst e1 e2 e3
  show J K 0 0 [] [some (.int (iI k)), some (.int (iI w))] 0 []
  refine j_iconst C dX6_p_0 ?_
  refine j_bipush C dX6_p_1 (by decide) ?_
  refine j_iload_n C dX6_p_3 rfl ?_
  refine j_imul C dX6_p_4 ?_
  refine j_iadd C dX6_p_5 ?_
  refine j_iload_n C dX6_p_6 rfl ?_
  refine j_iadd C dX6_p_7 ?_
  exact hR () dX6_p_8 (by rfl) rfl (Nat.le_of_ble_eq_true rfl) (Nat.le_of_ble_eq_true rfl)
set_option maxHeartbeats 4000000 in
set_option maxRecDepth 100000 in
theorem c_X6_least (l : Launch) (D : va_G) (cA : Nat → ClassId) (x y : Int) (hx : -2147483648 ≤ x ∧ x < 2147483648) (hy : -2147483648 ≤ y ∧ y < 2147483648) : MI (U := Unit) l yX6_least cX6_least 2 (some .int) (rmN 1 0 0) D cA [.int (iI x), .int (iI y)] [] (fun z _ => z = min x y) (fun _ => []) := by
  refine m_startI pn_X6 rfl (List.forall_mem_cons.mpr ⟨rfl, List.forall_mem_cons.mpr ⟨rfl, fun _ h => absurd h List.not_mem_nil⟩⟩) (Nat.le_of_ble_eq_true rfl) ?_
  intro K C e1 e2 e3 hin hR
  subst e1 e2 e3
  show J K 0 0 [] [some (.int (iI x)), some (.int (iI y))] 0 []
  refine j_iload_n C dX6_least_0 rfl ?_
  refine j_iload_n C dX6_least_1 rfl ?_
  refine j_icmp_ge (tgt := 9) C dX6_least_2 (by decide) (by omega) (by omega) (by omega) (by omega) (fun c2 => ?_) (fun c2 => ?_)
  · refine j_iload_n C dX6_least_9 rfl ?_
    exact hR () dX6_least_10 (by omega) rfl (Nat.le_of_ble_eq_true rfl) (Nat.le_of_ble_eq_true rfl)
  · refine j_iload_n C dX6_least_5 rfl ?_
    refine j_goto (tgt := 10) C dX6_least_6 (by decide) ?_
    exact hR () dX6_least_10 (by omega) rfl (Nat.le_of_ble_eq_true rfl) (Nat.le_of_ble_eq_true rfl)
set_option maxHeartbeats 4000000 in
set_option maxRecDepth 100000 in
theorem c_X6_isParty (l : Launch) (D : va_G) (cA : Nat → ClassId) (a : Nat → Nat) (G M : Int → Int) (p : Int) (hp : -2147483648 ≤ p ∧ p < 2147483648) (hM : 2 ≤ M 0 ∧ M 0 ≤ 7) : MI (U := Unit) l yX6_isParty cX6_isParty 2 (some .boolean) (rmN 2 0 0) D cA [.ref (a 0), .int (iI p)] [mO a G, [(a 1, aJ (cA 0) 325 M)]] (fun x _ => x = if 0 ≤ p ∧ p ≤ M 0 - 1 then 1 else 0) (fun _ => [mO a G, [(a 1, aJ (cA 0) 325 M)]]) := by
  refine m_startZ pn_X6 rfl (List.forall_mem_cons.mpr ⟨rfl, List.forall_mem_cons.mpr ⟨rfl, fun _ h => absurd h List.not_mem_nil⟩⟩) (Nat.le_of_ble_eq_true rfl) ?_
  intro K C e1 e2 e3 hin hR
  subst e1 e2 e3
  show J K 0 0 [mO a G, [(a 1, aJ ((kC K) 0) 325 M)]] [some (.ref (a 0)), some (.int (iI p))] 0 []
  refine j_iload_n C dX6_isParty_0 rfl ?_
  refine j_iconst C dX6_isParty_1 ?_
  refine j_aload_n C dX6_isParty_2 rfl ?_
  refine j_get C 0 0 0 rfl rfl rfl wU_X6 (by decide) wF_X6_7 rfl dX6_isParty_3 ?_
  refine j_iconst C dX6_isParty_6 ?_
  refine j_iald C 1 0 rfl rfl dX6_isParty_7 (by decide) (by omega) (by omega) ?_
  refine j_iconst C dX6_isParty_8 ?_
  refine j_isub C dX6_isParty_9 ?_
  refine j_perm (pm_2 _ _) ?_
  refine j_callSi C (As := [.int (iI _), .int (iI _), .int (iI _)]) (c_X6_in _ _ _ _ _ _ (by first | assumption | omega) (by first | assumption | omega) (by first | assumption | omega)) 3 nf_X6_in.2 wL_X6_68 wS_X6_in wIn_X6 wC_X6_in rfl rfl (by decide) dX6_isParty_10 (Nat.le_of_ble_eq_true rfl) ⟨Nat.le_of_ble_eq_true rfl, Nat.le_of_ble_eq_true rfl⟩ (fun x10 u10 h10 => ?_)
  refine j_perm (pr_2 _ _) ?_
  exact hR () dX6_isParty_13 (by omega) (by first | trivial | omega | rfl) rfl (Nat.le_of_ble_eq_true rfl) (Nat.le_of_ble_eq_true rfl)
set_option maxHeartbeats 4000000 in
set_option maxRecDepth 100000 in
theorem c_X6_isPromise (l : Launch) (D : va_G) (cA : Nat → ClassId) (a : Nat → Nat) (G M : Int → Int) (p : Int) (hp : -2147483648 ≤ p ∧ p < 2147483648) (hM : 0 ≤ M 1 ∧ M 1 ≤ 40) : MI (U := Unit) l yX6_isPromise cX6_isPromise 2 (some .boolean) (rmN 2 0 0) D cA [.ref (a 0), .int (iI p)] [mO a G, [(a 1, aJ (cA 0) 325 M)]] (fun x _ => x = if 0 ≤ p ∧ p ≤ M 1 - 1 then 1 else 0) (fun _ => [mO a G, [(a 1, aJ (cA 0) 325 M)]]) := by
  refine m_startZ pn_X6 rfl (List.forall_mem_cons.mpr ⟨rfl, List.forall_mem_cons.mpr ⟨rfl, fun _ h => absurd h List.not_mem_nil⟩⟩) (Nat.le_of_ble_eq_true rfl) ?_
  intro K C e1 e2 e3 hin hR
  subst e1 e2 e3
  show J K 0 0 [mO a G, [(a 1, aJ ((kC K) 0) 325 M)]] [some (.ref (a 0)), some (.int (iI p))] 0 []
  refine j_iload_n C dX6_isPromise_0 rfl ?_
  refine j_iconst C dX6_isPromise_1 ?_
  refine j_aload_n C dX6_isPromise_2 rfl ?_
  refine j_get C 0 0 0 rfl rfl rfl wU_X6 (by decide) wF_X6_7 rfl dX6_isPromise_3 ?_
  refine j_iconst C dX6_isPromise_6 ?_
  refine j_iald C 1 0 rfl rfl dX6_isPromise_7 (by decide) (by omega) (by omega) ?_
  refine j_iconst C dX6_isPromise_8 ?_
  refine j_isub C dX6_isPromise_9 ?_
  refine j_perm (pm_2 _ _) ?_
  refine j_callSi C (As := [.int (iI _), .int (iI _), .int (iI _)]) (c_X6_in _ _ _ _ _ _ (by first | assumption | omega) (by first | assumption | omega) (by first | assumption | omega)) 3 nf_X6_in.2 wL_X6_68 wS_X6_in wIn_X6 wC_X6_in rfl rfl (by decide) dX6_isPromise_10 (Nat.le_of_ble_eq_true rfl) ⟨Nat.le_of_ble_eq_true rfl, Nat.le_of_ble_eq_true rfl⟩ (fun x10 u10 h10 => ?_)
  refine j_perm (pr_2 _ _) ?_
  exact hR () dX6_isPromise_13 (by omega) (by first | trivial | omega | rfl) rfl (Nat.le_of_ble_eq_true rfl) (Nat.le_of_ble_eq_true rfl)
