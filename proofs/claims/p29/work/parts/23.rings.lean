/-! the class of the rings -/
def rgO (r : Nat → Nat) (dd : Nat) (z : Int) : va_W := [(r 0, .inr (4, [.ref dd, .ref (r 1), .ref (r 2), .int (iI z)]))]
theorem rgO_put {r : Nat → Nat} {dd : Nat} {z x : Int} : (rgO r dd z).set 0 (r 0, .inr (4, ([.ref dd, .ref (r 1), .ref (r 2), .int (iI z)] : List Value).set 3 (.int (iI x)))) = rgO r dd x := rfl
/-- the debts along a row, closed to a ring by the party h -/
def prsA (h : Int) : List Int → List Int
  | [] => []
  | [a] => [7 * a + h]
  | a :: b :: t => (7 * a + b) :: prsA h (b :: t)
def prs (r : List Int) : List Int := prsA (r.headD 0) r
theorem prsA_get (h : Int) : ∀ (r : List Int) (k : Nat), (prsA h r).getD k (-1) = if k < r.length then 7 * r.getD k 0 + (if k + 1 < r.length then r.getD (k + 1) 0 else h) else -1
  | [], k => by simp [prsA]
  | [a], k => by
    match k with
    | 0 => simp [prsA]
    | k + 1 => simp [prsA]
  | a :: b :: t, k => by
    match k with
    | 0 => simp [prsA]
    | k + 1 =>
      have := prsA_get h (b :: t) k
      simp only [prsA, List.getD_cons_succ, List.length_cons] at this ⊢
      rw [this]
      by_cases c : k < t.length + 1
      · rw [if_pos c, if_pos (show k + 1 < t.length + 1 + 1 by omega)]
        congr 1
        by_cases d : k + 1 < t.length + 1
        · rw [if_pos d, if_pos (show k + 1 + 1 < t.length + 1 + 1 by omega)]
        · rw [if_neg d, if_neg (show ¬ k + 1 + 1 < t.length + 1 + 1 by omega)]
      · rw [if_neg c, if_neg (show ¬ k + 1 < t.length + 1 + 1 by omega)]
theorem prsA_len (h : Int) : ∀ (r : List Int), (prsA h r).length = r.length
  | [] => rfl
  | [a] => rfl
  | a :: b :: t => by
    have := prsA_len h (b :: t)
    simp only [prsA, List.length_cons] at this ⊢
    omega
/-- a row of different parties -/
def PV (r : List Int) : Prop := r ≠ [] ∧ r.length ≤ 7 ∧ (∀ p ∈ r, 0 ≤ p ∧ p < 7) ∧ r.Nodup
theorem getD_in {r : List Int} {k : Nat} {z : Int} (h : ∀ p ∈ r, 0 ≤ p ∧ p < 7) (hk : k < r.length) : 0 ≤ r.getD k z ∧ r.getD k z < 7 := by
  rw [List.getD_eq_getElem?_getD, List.getElem?_eq_getElem hk]
  exact h _ (List.getElem_mem hk)
theorem getD_dz {r : List Int} {k : Nat} {y z : Int} (hk : k < r.length) : r.getD k y = r.getD k z := by
  rw [List.getD_eq_getElem?_getD, List.getD_eq_getElem?_getD, List.getElem?_eq_getElem hk]
  rfl
theorem getD_out {r : List Int} {k : Nat} {z : Int} (hk : r.length ≤ k) : r.getD k z = z := by
  rw [List.getD_eq_getElem?_getD, List.getElem?_eq_none hk]
  rfl
theorem head_in {r : List Int} (h : PV r) : 0 ≤ r.headD 0 ∧ r.headD 0 < 7 := by
  match r, h with
  | a :: t, h => exact h.2.2.1 a List.mem_cons_self
  | [], h => exact absurd rfl h.1
theorem head_get {r : List Int} (h : r ≠ []) : r.getD 0 (-1) = r.headD 0 := by
  match r, h with
  | a :: t, _ => rfl
theorem last_in {r : List Int} (h : PV r) : 0 ≤ r.getLastD 0 ∧ r.getLastD 0 < 7 := by
  match r, h with
  | a :: t, h =>
    rw [List.getLastD_cons, List.getLastD_eq_getLast?]
    cases e : t.getLast? with
    | none => exact h.2.2.1 a List.mem_cons_self
    | some x => exact h.2.2.1 x (List.mem_cons_of_mem _ (List.mem_of_getLast? e))
  | [], h => exact absurd rfl h.1
theorem rep_get {w k : Int} {r : List Int} (h : rep w r) (hv : ∀ p ∈ r, 0 ≤ p ∧ p < 7) (h0 : 0 ≤ k) (h1 : k < 7) : r.getD k.toNat (-1) = if dg w k = 7 then -1 else dg w k := by
  have e := h.2 k h0 h1
  by_cases c : k.toNat < r.length
  · have a := getD_in (z := 7) hv c
    rw [e, if_neg (by omega), getD_dz c]
  · rw [getD_out (by omega)] at e
    rw [e, if_pos rfl, getD_out (by omega)]
/-- the rows that are kept -/
def Rws (f : Int → Int) (z : Int) (L : List (List Int)) : Prop := z = L.length ∧ ∀ i : Int, 0 ≤ i → i < z → rep (f i) (L.getD i.toNat [])
theorem Rws_put {f : Int → Int} {z w : Int} {L : List (List Int)} {r : List Int} (h : Rws f z L) (hw : rep w r) : Rws (st f z w) (z + 1) (L ++ [r]) := by
  refine ⟨by rw [h.1]; simp, fun i h0 h1 => ?_⟩
  have hz := h.1
  by_cases c : i = z
  · subst c
    rw [st_s, List.getD_eq_getElem?_getD, List.getElem?_append_right (by omega), show i.toNat - L.length = 0 by omega]
    exact hw
  · rw [st_n c, List.getD_eq_getElem?_getD, List.getElem?_append_left (by omega), ← List.getD_eq_getElem?_getD]
    exact h.2 i h0 (by omega)
theorem msk_tb (j : Nat) : ∀ (r : List Int) (m : Nat), (r.foldl (fun m p => m ||| 2 ^ p.toNat) m).testBit j = (m.testBit j || decide (∃ p ∈ r, p.toNat = j))
  | [], m => by simp
  | p :: t, m => by
    rw [List.foldl_cons, msk_tb j t, Nat.testBit_or, Nat.testBit_two_pow]
    by_cases a : p.toNat = j
    · simp [a]
    · simp [a]
theorem msk_mem {r : List Int} (hr : ∀ p ∈ r, 0 ≤ p ∧ p < 7) {i : Int} (h0 : 0 ≤ i) : (msk r).testBit i.toNat = true ↔ i ∈ r := by
  unfold msk
  rw [msk_tb]
  simp
  constructor
  · rintro ⟨p, hp, e⟩
    have := hr p hp
    rw [show i = p by omega]
    exact hp
  · intro h
    exact ⟨i, h, rfl⟩
theorem msk_lt : ∀ (r : List Int) (m : Nat), (∀ p ∈ r, 0 ≤ p ∧ p < 7) → m < 128 → r.foldl (fun m p => m ||| 2 ^ p.toNat) m < 128
  | [], m, _, h => h
  | p :: t, m, hr, h => by
    have hp := hr p List.mem_cons_self
    refine msk_lt t _ (fun x hx => hr x (List.mem_cons_of_mem _ hx)) (Nat.or_lt_two_pow (n := 7) h ?_)
    exact Nat.pow_lt_pow_right (by omega) (by omega)
theorem us_a {u : Nat} {i : Int} (hu : u < 128) (h0 : 0 ≤ i) (h1 : i < 7) : iI (u : Int) >>> (iI i &&& 31) = iI ((u / 2 ^ i.toNat : Nat) : Int) := by
  have := us_1a ⟨u, hu⟩ ⟨i.toNat, by omega⟩
  simp only at this
  rw [show ((i.toNat : Nat) : Int) = i by omega] at this
  exact this
theorem us_b {u : Nat} {i : Int} (hu : u < 128) (h0 : 0 ≤ i) (h1 : i < 7) : iI ((u / 2 ^ i.toNat : Nat) : Int) &&& iI 1 = iI (if (Nat.testBit u i.toNat) = true then 1 else 0) := us_1b ⟨u, hu⟩ ⟨i.toNat, by omega⟩
theorem us_c {i : Int} (h0 : 0 ≤ i) (h1 : i < 7) : iI 1 <<< (iI i &&& 31) = iI ((2 ^ i.toNat : Nat) : Int) := by
  have := us_2 ⟨i.toNat, by omega⟩
  simp only at this
  rw [show ((i.toNat : Nat) : Int) = i by omega] at this
  exact this
theorem candF_skip {ok : Int → Bool} {g : Int → List (List Int)} {i : Int} (h0 : 0 ≤ i) : ∀ (m : Nat), m ≤ 7 → 7 - (m : Int) ≤ i → i ≤ 7 → (∀ p : Int, 0 ≤ p → p < i → ok p = false) → candF ok g m = candF ok g (7 - i).toNat
  | 0, _, hi, hi7, _ => by
    rw [show (7 - i).toNat = 0 by omega]
  | m + 1, hm, hi, hi7, h => by
    by_cases c : i = 6 - (m : Int)
    · rw [show (7 - i).toNat = m + 1 by omega]
    · rw [candF, h (6 - m) (by omega) (by omega), if_neg (by decide), List.nil_append]
      exact candF_skip h0 m (by omega) (by omega) hi7 h
theorem candF_step {ok : Int → Bool} {g : Int → List (List Int)} {i : Int} (h0 : 0 ≤ i) (h1 : i < 7) : candF ok g (7 - i).toNat = (if ok i = true then g i else []) ++ candF ok g (7 - (i + 1)).toNat := by
  rw [show (7 - i).toNat = (7 - (i + 1)).toNat + 1 by omega, candF, show 6 - (((7 - (i + 1)).toNat : Nat) : Int) = i by omega]
theorem candF_nil {ok : Int → Bool} {g : Int → List (List Int)} (h : ∀ p, g p = []) : ∀ m : Nat, candF ok g m = []
  | 0 => rfl
  | m + 1 => by
    rw [candF, candF_nil h m, h]
    split <;> rfl
theorem E_full (X : Int → Int) (r : List Int) : E X (0 + 1) r = if 0 < X (7 * r.getLastD 0 + r.headD 0) then [r] else [] := by
  rw [E_succ, candF_nil (g := fun p => E X 0 (r ++ [p])) (fun _ => rfl), List.append_nil]
theorem PV_snoc {r : List Int} {i : Int} (h : PV r) (hl : r.length < 7) (h0 : 0 ≤ i) (h1 : i < 7) (hi : i ∉ r) : PV (r ++ [i]) := by
  refine ⟨by simp, by simp; omega, fun p hp => ?_, ?_⟩
  · rcases List.mem_append.mp hp with q | q
    · exact h.2.2.1 p q
    · rw [List.mem_singleton.mp q]
      exact ⟨h0, h1⟩
  · exact List.nodup_append.mpr ⟨h.2.2.2, by simp, fun a ha b hb e => hi (by rw [← List.mem_singleton.mp hb, ← e]; exact ha)⟩
theorem pm_0 : ([] : List va_W).Perm ([] ++ []) := List.Perm.refl _
theorem pr_0 : (([] : List va_W) ++ []).Perm [] := List.Perm.refl _
theorem pm_6 (B0 B1 B2 B3 B4 B5 : va_W) : [B0, B1, B2, B3, B4, B5].Perm ([] ++ [B0, B1, B2, B3, B4, B5]) := List.Perm.refl _
theorem pr_6 (B0 B1 B2 B3 B4 B5 : va_W) : ([] ++ [B0, B1, B2, B3, B4, B5]).Perm [B0, B1, B2, B3, B4, B5] := (pm_6 B0 B1 B2 B3 B4 B5).symm
theorem pm_6_0_1_2_3_4_5 (B0 B1 B2 B3 B4 B5 : va_W) : [B0, B1, B2, B3, B4, B5].Perm ([B0, B1, B2, B3, B4, B5] ++ []) := List.Perm.trans (List.Perm.refl _) (List.Perm.trans (List.Perm.cons _ (List.Perm.refl _)) (List.Perm.trans (List.Perm.cons _ (List.Perm.cons _ (List.Perm.refl _))) (List.Perm.trans (List.Perm.cons _ (List.Perm.cons _ (List.Perm.cons _ (List.Perm.refl _)))) (List.Perm.trans (List.Perm.cons _ (List.Perm.cons _ (List.Perm.cons _ (List.Perm.cons _ (List.Perm.refl _))))) (List.Perm.cons _ (List.Perm.cons _ (List.Perm.cons _ (List.Perm.cons _ (List.Perm.cons _ (List.Perm.refl _))))))))))
theorem pr_6_0_1_2_3_4_5 (B0 B1 B2 B3 B4 B5 : va_W) : ([B0, B1, B2, B3, B4, B5] ++ []).Perm [B0, B1, B2, B3, B4, B5] := (pm_6_0_1_2_3_4_5 B0 B1 B2 B3 B4 B5).symm
theorem pm_6_0_5 (B0 B1 B2 B3 B4 B5 : va_W) : [B0, B1, B2, B3, B4, B5].Perm ([B0, B5] ++ [B1, B2, B3, B4]) := List.Perm.trans (List.Perm.refl _) (List.Perm.cons _ (List.perm_middle (l₁ := [B1, B2, B3, B4]) (a := B5) (l₂ := [])))
theorem pr_6_0_5 (B0 B1 B2 B3 B4 B5 : va_W) : ([B0, B5] ++ [B1, B2, B3, B4]).Perm [B0, B1, B2, B3, B4, B5] := (pm_6_0_5 B0 B1 B2 B3 B4 B5).symm
theorem pm_6_1_2_3_4 (B0 B1 B2 B3 B4 B5 : va_W) : [B0, B1, B2, B3, B4, B5].Perm ([B1, B2, B3, B4] ++ [B0, B5]) := List.Perm.trans (List.perm_middle (l₁ := [B0]) (a := B1) (l₂ := [B2, B3, B4, B5])) (List.Perm.trans (List.Perm.cons _ (List.perm_middle (l₁ := [B0]) (a := B2) (l₂ := [B3, B4, B5]))) (List.Perm.trans (List.Perm.cons _ (List.Perm.cons _ (List.perm_middle (l₁ := [B0]) (a := B3) (l₂ := [B4, B5])))) (List.Perm.cons _ (List.Perm.cons _ (List.Perm.cons _ (List.perm_middle (l₁ := [B0]) (a := B4) (l₂ := [B5])))))))
theorem pr_6_1_2_3_4 (B0 B1 B2 B3 B4 B5 : va_W) : ([B1, B2, B3, B4] ++ [B0, B5]).Perm [B0, B1, B2, B3, B4, B5] := (pm_6_1_2_3_4 B0 B1 B2 B3 B4 B5).symm
set_option maxHeartbeats 4000000 in
set_option maxRecDepth 100000 in
theorem c_X4_rowWith (l : Launch) (D : va_G) (cA : Nat → ClassId) (w p q : Int) (hw : 0 ≤ w ∧ w < 2097152) (hp : 0 ≤ p ∧ p < 7) (hq : 0 ≤ q ∧ q < 7) : MI (U := Unit) l yX4_rowWith cX4_rowWith 4 (some .int) (rmN 1 0 0) D cA [.int (iI w), .int (iI p), .int (iI q)] [] (fun x _ => x = rwI w p q) (fun _ => []) := by
  refine m_startI pn_X4 rfl (List.forall_mem_cons.mpr ⟨rfl, List.forall_mem_cons.mpr ⟨rfl, List.forall_mem_cons.mpr ⟨rfl, fun _ h => absurd h List.not_mem_nil⟩⟩⟩) (Nat.le_of_ble_eq_true rfl) ?_
  intro K C e1 e2 e3 hin hR
  subst e1 e2 e3
  show J K 0 0 [] [some (.int (iI w)), some (.int (iI p)), some (.int (iI q)), none] 0 []
  refine j_iconst C dX4_rowWith_0 ?_
  refine j_iload_n C dX4_rowWith_1 rfl ?_
  refine j_imul C dX4_rowWith_2 ?_
  refine j_istn_3 C dX4_rowWith_3 rfl ?_
  refine j_iload_n C dX4_rowWith_4 rfl ?_
  refine j_bipush C dX4_rowWith_5 (by decide) ?_
  refine j_iload_n C dX4_rowWith_7 rfl ?_
  refine j_ishl C dX4_rowWith_8 (rb_1 hp.1 hp.2) ?_
  refine j_iconst C dX4_rowWith_9 ?_
  refine j_ixor C dX4_rowWith_10 (rb_2 hp.1 hp.2) ?_
  refine j_iand C dX4_rowWith_11 (rb_3 hw.1 hp.1 hp.2) ?_
  refine j_iload_n C dX4_rowWith_12 rfl ?_
  refine j_iload_n C dX4_rowWith_13 rfl ?_
  refine j_ishl C dX4_rowWith_14 (rb_4 hq.1 hq.2 hp.1 hp.2) ?_
  refine j_ior C dX4_rowWith_15 (rb_5 _ _) ?_
  exact hR () dX4_rowWith_16 (by rfl) rfl (Nat.le_of_ble_eq_true rfl) (Nat.le_of_ble_eq_true rfl)
set_option maxHeartbeats 4000000 in
set_option maxRecDepth 100000 in
theorem c_X4_partyIn (l : Launch) (D : va_G) (cA : Nat → ClassId) (w k : Int) (pr : List Int) (hw : rep w pr) (hv : ∀ p ∈ pr, 0 ≤ p ∧ p < 7) (hl : pr.length ≤ 7) (hk : 0 ≤ k ∧ k ≤ 7) : MI (U := Unit) l yX4_partyIn cX4_partyIn 3 (some .int) (rmN 1 0 0) D cA [.int (iI w), .int (iI k)] [] (fun x _ => x = pr.getD k.toNat (-1)) (fun _ => []) := by
  refine m_startI pn_X4 rfl (List.forall_mem_cons.mpr ⟨rfl, List.forall_mem_cons.mpr ⟨rfl, fun _ h => absurd h List.not_mem_nil⟩⟩) (Nat.le_of_ble_eq_true rfl) ?_
  intro K C e1 e2 e3 hin hR
  subst e1 e2 e3
  have hd := dg_bd w k
  show J K 0 0 [] [some (.int (iI w)), some (.int (iI k)), none] 0 []
  have L19 : ∀ (z : Int) (hz : z = if k < 7 then dg w k else 7), J K 0 0 [] [some (.int (iI w)), some (.int (iI k)), none] 19 [.int (iI z)] := by
    intro z hz
    refine j_istn_2 C dX4_partyIn_19 rfl ?_
    refine j_iload_n C dX4_partyIn_20 rfl ?_
    refine j_bipush C dX4_partyIn_21 (by decide) ?_
    refine j_icmp_ne (tgt := 30) C dX4_partyIn_23 (by decide) (by (split at hz <;> omega)) (by (split at hz <;> omega)) (by (split at hz <;> omega)) (by (split at hz <;> omega)) (fun c23 => ?_) (fun c23 => ?_)
    · refine j_iload_n C dX4_partyIn_30 rfl ?_
      refine hR () dX4_partyIn_31 ?_ rfl (Nat.le_of_ble_eq_true rfl) (Nat.le_of_ble_eq_true rfl)
      split at hz
      · have e := rep_get hw hv hk.1 (by omega)
        rw [← hz] at e
        show _ = _
        rw [e]
        split <;> omega
      · have e := getD_out (r := pr) (k := k.toNat) (z := -1) (by omega)
        show _ = _
        omega
    · refine j_iconst C dX4_partyIn_26 ?_
      refine j_goto (tgt := 31) C dX4_partyIn_27 (by decide) ?_
      refine hR () dX4_partyIn_31 ?_ rfl (Nat.le_of_ble_eq_true rfl) (Nat.le_of_ble_eq_true rfl)
      split at hz
      · have e := rep_get hw hv hk.1 (by omega)
        rw [← hz] at e
        show _ = _
        rw [e]
        split <;> omega
      · have e := getD_out (r := pr) (k := k.toNat) (z := -1) (by omega)
        show _ = _
        omega
  refine j_iload_n C dX4_partyIn_0 rfl ?_
  refine j_bipush C dX4_partyIn_1 (by decide) ?_
  refine j_icmp_ge (tgt := 17) C dX4_partyIn_3 (by decide) (by omega) (by omega) (by omega) (by omega) (fun c3 => ?_) (fun c3 => ?_)
  · refine j_bipush C dX4_partyIn_17 (by decide) ?_
    exact L19 _ (by first | (rw [if_neg (by omega)]) | (rw [if_pos (by omega)]; rfl))
  · refine j_iload_n C dX4_partyIn_6 rfl ?_
    refine j_iconst C dX4_partyIn_7 ?_
    refine j_iload_n C dX4_partyIn_8 rfl ?_
    refine j_imul C dX4_partyIn_9 ?_
    refine j_ishr C dX4_partyIn_10 (rb_6 hw.1.1 hw.1.2 hk.1 (by omega)) ?_
    refine j_bipush C dX4_partyIn_11 (by decide) ?_
    refine j_iand C dX4_partyIn_13 (rb_7 _ (Nat.lt_of_le_of_lt (Nat.div_le_self _ _) (by have := hw.1; omega))) ?_
    refine j_goto (tgt := 19) C dX4_partyIn_14 (by decide) ?_
    exact L19 _ (by first | (rw [if_neg (by omega)]) | (rw [if_pos (by omega)]; rfl))
set_option maxHeartbeats 4000000 in
set_option maxRecDepth 100000 in
theorem c_X4_pairIn (l : Launch) (D : va_G) (cA : Nat → ClassId) (w k : Int) (pr : List Int) (hw : rep w pr) (hv : PV pr) (hk : 0 ≤ k ∧ k < 7) : MI (U := Unit) l yX4_pairIn cX4_pairIn 4 (some .int) (rmN 2 0 0) D cA [.int (iI w), .int (iI k)] [] (fun x _ => x = (prs pr).getD k.toNat (-1)) (fun _ => []) := by
  refine m_startI pn_X4 rfl (List.forall_mem_cons.mpr ⟨rfl, List.forall_mem_cons.mpr ⟨rfl, fun _ h => absurd h List.not_mem_nil⟩⟩) (Nat.le_of_ble_eq_true rfl) ?_
  intro K C e1 e2 e3 hin hR
  subst e1 e2 e3
  have e := prsA_get (pr.headD 0) pr k.toNat
  have hh := head_in hv
  have hh2 := head_get hv.1
  have g1 := fun (q : k.toNat < pr.length) => getD_in (z := -1) hv.2.2.1 q
  have g2 := fun (q : k.toNat + 1 < pr.length) => getD_in (z := -1) hv.2.2.1 q
  have ek : (k + 1).toNat = k.toNat + 1 := by omega
  have go1 := fun (q : pr.length ≤ k.toNat) => getD_out (z := -1) q
  have go2 := fun (q : pr.length ≤ k.toNat + 1) => getD_out (z := -1) q
  have z1 := fun (q : k.toNat < pr.length) => getD_dz (y := 0) (z := -1) q
  have z2 := fun (q : k.toNat + 1 < pr.length) => getD_dz (y := 0) (z := -1) q
  show J K 0 0 [] [some (.int (iI w)), some (.int (iI k)), none, none] 0 []
  refine j_iload_n C dX4_pairIn_0 rfl ?_
  refine j_iload_n C dX4_pairIn_1 rfl ?_
  refine j_perm (pm_0 ) ?_
  refine j_callSi C (As := [.int (iI _), .int (iI _)]) (c_X4_partyIn _ _ _ _ _ (pr) (by exact hw) (by exact hv.2.2.1) (by exact hv.2.1) (by first | assumption | omega)) 2 nf_X4_partyIn.2 wL_X4_42 wS_X4_partyIn wIn_X4 wC_X4_partyIn rfl rfl (by decide) dX4_pairIn_2 (Nat.le_of_ble_eq_true rfl) ⟨Nat.le_of_ble_eq_true rfl, Nat.le_of_ble_eq_true rfl⟩ (fun x2 u2 h2 => ?_)
  refine j_perm (pr_0 ) ?_
  have hb2 : -1 ≤ x2 ∧ x2 < 7 := by rw [h2]; by_cases q : k.toNat < pr.length; (have := g1 q; omega); (rw [go1 (by omega)]; omega)
  refine j_istn_2 C dX4_pairIn_5 rfl ?_
  refine j_iload_n C dX4_pairIn_6 rfl ?_
  refine j_iconst C dX4_pairIn_7 ?_
  refine j_icmp_ne (tgt := 13) C dX4_pairIn_8 (by decide) (by omega) (by omega) (by omega) (by omega) (fun c8 => ?_) (fun c8 => ?_)
  · refine j_iload_n C dX4_pairIn_13 rfl ?_
    refine j_iload_n C dX4_pairIn_14 rfl ?_
    refine j_iconst C dX4_pairIn_15 ?_
    refine j_iadd C dX4_pairIn_16 ?_
    refine j_perm (pm_0 ) ?_
    refine j_callSi C (As := [.int (iI _), .int (iI _)]) (c_X4_partyIn _ _ _ _ _ (pr) (by exact hw) (by exact hv.2.2.1) (by exact hv.2.1) (by first | assumption | omega)) 2 nf_X4_partyIn.2 wL_X4_42 wS_X4_partyIn wIn_X4 wC_X4_partyIn rfl rfl (by decide) dX4_pairIn_17 (Nat.le_of_ble_eq_true rfl) ⟨Nat.le_of_ble_eq_true rfl, Nat.le_of_ble_eq_true rfl⟩ (fun x17 u17 h17 => ?_)
    refine j_perm (pr_0 ) ?_
    rw [ek] at h17
    have hb17 : -1 ≤ x17 ∧ x17 < 7 := by rw [h17]; by_cases q : k.toNat + 1 < pr.length; (have := g2 q; omega); (rw [go2 (by omega)]; omega)
    refine j_istn_3 C dX4_pairIn_20 rfl ?_
    refine j_iload_n C dX4_pairIn_21 rfl ?_
    refine j_bipush C dX4_pairIn_22 (by decide) ?_
    refine j_imul C dX4_pairIn_24 ?_
    refine j_iload_n C dX4_pairIn_25 rfl ?_
    refine j_iconst C dX4_pairIn_26 ?_
    refine j_icmp_ne (tgt := 38) C dX4_pairIn_27 (by decide) (by omega) (by omega) (by omega) (by omega) (fun c27 => ?_) (fun c27 => ?_)
    · refine j_iload_n C dX4_pairIn_38 rfl ?_
      refine j_iadd C dX4_pairIn_39 ?_
      refine hR () dX4_pairIn_40 ?_ rfl (Nat.le_of_ble_eq_true rfl) (Nat.le_of_ble_eq_true rfl)
      have q1 : k.toNat < pr.length := by (apply Classical.byContradiction; intro q; have := go1 (by omega); omega)
      have := z1 q1
      show _ = _
      rw [show prs pr = prsA (pr.headD 0) pr from rfl, e, if_pos q1]
      by_cases q2 : k.toNat + 1 < pr.length
      · have := z2 q2
        have := g2 q2
        rw [if_pos q2]
        omega
      · have := go2 (by omega)
        rw [if_neg q2]
        omega
    · refine j_iload_n C dX4_pairIn_30 rfl ?_
      refine j_iconst C dX4_pairIn_31 ?_
      refine j_perm (pm_0 ) ?_
      refine j_callSi C (As := [.int (iI _), .int (iI _)]) (c_X4_partyIn _ _ _ _ _ (pr) (by exact hw) (by exact hv.2.2.1) (by exact hv.2.1) (by first | assumption | omega)) 2 nf_X4_partyIn.2 wL_X4_42 wS_X4_partyIn wIn_X4 wC_X4_partyIn rfl rfl (by decide) dX4_pairIn_32 (Nat.le_of_ble_eq_true rfl) ⟨Nat.le_of_ble_eq_true rfl, Nat.le_of_ble_eq_true rfl⟩ (fun x32 u32 h32 => ?_)
      refine j_perm (pr_0 ) ?_
      rw [show (0 : Int).toNat = 0 from rfl, hh2] at h32
      refine j_goto (tgt := 39) C dX4_pairIn_35 (by decide) ?_
      refine j_iadd C dX4_pairIn_39 ?_
      refine hR () dX4_pairIn_40 ?_ rfl (Nat.le_of_ble_eq_true rfl) (Nat.le_of_ble_eq_true rfl)
      have q1 : k.toNat < pr.length := by (apply Classical.byContradiction; intro q; have := go1 (by omega); omega)
      have := z1 q1
      show _ = _
      rw [show prs pr = prsA (pr.headD 0) pr from rfl, e, if_pos q1]
      by_cases q2 : k.toNat + 1 < pr.length
      · have := z2 q2
        have := g2 q2
        rw [if_pos q2]
        omega
      · have := go2 (by omega)
        rw [if_neg q2]
        omega
  · refine j_iconst C dX4_pairIn_11 ?_
    exact hR () dX4_pairIn_12 (by (show (-1 : Int) = _; rw [show prs pr = prsA (pr.headD 0) pr from rfl, e, if_neg (by intro q; have := g1 q; omega)])) rfl (Nat.le_of_ble_eq_true rfl) (Nat.le_of_ble_eq_true rfl)
set_option maxHeartbeats 4000000 in
set_option maxRecDepth 100000 in
theorem c_X4_addRow (l : Launch) (D : va_G) (cA : Nat → ClassId) (r d : Nat → Nat) (z w : Int) (f : Int → Int) (hz : 0 ≤ z ∧ z < 2365) : MV (U := Unit) l yX4_addRow cX4_addRow 2 none (rmN 1 0 0) D cA [.ref (r 0), .int (iI w)] [rgO r (d 0) z, [(r 1, aJ (cA 0) 2365 f)]] (fun _ => True) (fun _ => [rgO r (d 0) (z + 1), [(r 1, aJ (cA 0) 2365 (st f z w))]]) := by
  refine m_startV pn_X4 rfl (List.forall_mem_cons.mpr ⟨rfl, List.forall_mem_cons.mpr ⟨rfl, fun _ h => absurd h List.not_mem_nil⟩⟩) (Nat.le_of_ble_eq_true rfl) ?_
  intro K C e1 e2 e3 hin hR
  subst e1 e2 e3
  show J K 0 0 [rgO r (d 0) z, [(r 1, aJ ((kC K) 0) 2365 f)]] [some (.ref (r 0)), some (.int (iI w))] 0 []
  refine j_aload_n C dX4_addRow_0 rfl ?_
  refine j_get C 0 0 3 rfl rfl rfl wU_X4 (by decide) wF_X4_29 rfl dX4_addRow_1 ?_
  refine j_if_lt (tgt := 37) C dX4_addRow_4 (by decide) (by omega) (by omega) (fun c4 => ?_) (fun c4 => ?_)
  · exfalso; omega
  · refine j_aload_n C dX4_addRow_7 rfl ?_
    refine j_get C 0 0 3 rfl rfl rfl wU_X4 (by decide) wF_X4_29 rfl dX4_addRow_8 ?_
    refine j_sipush C dX4_addRow_11 (by decide) ?_
    refine j_icmp_ge (tgt := 37) C dX4_addRow_14 (by decide) (by omega) (by omega) (by omega) (by omega) (fun c14 => ?_) (fun c14 => ?_)
    · exfalso; omega
    · refine j_aload_n C dX4_addRow_17 rfl ?_
      refine j_get C 0 0 1 rfl rfl rfl wU_X4 (by decide) wF_X4_18 rfl dX4_addRow_18 ?_
      refine j_aload_n C dX4_addRow_21 rfl ?_
      refine j_get C 0 0 3 rfl rfl rfl wU_X4 (by decide) wF_X4_29 rfl dX4_addRow_22 ?_
      refine j_iload_n C dX4_addRow_25 rfl ?_
      refine j_iast_p1 C 0 rfl ar1_ast dX4_addRow_26 (by decide) (by omega) (by omega) ?_
      refine j_aload_n C dX4_addRow_27 rfl ?_
      refine j_dup C dX4_addRow_28 rfl ?_
      refine j_get C 0 0 3 rfl rfl rfl wU_X4 (by decide) wF_X4_29 rfl dX4_addRow_29 ?_
      refine j_iconst C dX4_addRow_32 ?_
      refine j_iadd C dX4_addRow_33 ?_
      refine j_put_p0 C 0 3 rfl rgO_put rfl wU_X4 tyX4_ok nmX4 (by decide) wF_X4_29 rfl rfl rfl (Nat.le_of_ble_eq_true rfl) dX4_addRow_34 ?_
      exact hR () dX4_addRow_37 (by first | trivial | omega | rfl) rfl (Nat.le_of_ble_eq_true rfl) (Nat.le_of_ble_eq_true rfl)
set_option maxHeartbeats 4000000 in
set_option maxRecDepth 100000 in
theorem c_X4_rowAt (l : Launch) (D : va_G) (cA : Nat → ClassId) (r d : Nat → Nat) (z i : Int) (f : Int → Int) (hz : z ≤ 2365) (hi : 0 ≤ i ∧ i < z) : MI (U := Unit) l yX4_rowAt cX4_rowAt 2 (some .int) (rmN 1 0 0) D cA [.ref (r 0), .int (iI i)] [rgO r (d 0) z, [(r 1, aJ (cA 0) 2365 f)]] (fun x _ => x = f i) (fun _ => [rgO r (d 0) z, [(r 1, aJ (cA 0) 2365 f)]]) := by
  refine m_startI pn_X4 rfl (List.forall_mem_cons.mpr ⟨rfl, List.forall_mem_cons.mpr ⟨rfl, fun _ h => absurd h List.not_mem_nil⟩⟩) (Nat.le_of_ble_eq_true rfl) ?_
  intro K C e1 e2 e3 hin hR
  subst e1 e2 e3
  show J K 0 0 [rgO r (d 0) z, [(r 1, aJ ((kC K) 0) 2365 f)]] [some (.ref (r 0)), some (.int (iI i))] 0 []
  refine j_iload_n C dX4_rowAt_0 rfl ?_
  refine j_if_lt (tgt := 28) C dX4_rowAt_1 (by decide) (by omega) (by omega) (fun c1 => ?_) (fun c1 => ?_)
  · exfalso; omega
  · refine j_iload_n C dX4_rowAt_4 rfl ?_
    refine j_aload_n C dX4_rowAt_5 rfl ?_
    refine j_get C 0 0 3 rfl rfl rfl wU_X4 (by decide) wF_X4_29 rfl dX4_rowAt_6 ?_
    refine j_icmp_ge (tgt := 28) C dX4_rowAt_9 (by decide) (by omega) (by omega) (by omega) (by omega) (fun c9 => ?_) (fun c9 => ?_)
    · exfalso; omega
    · refine j_iload_n C dX4_rowAt_12 rfl ?_
      refine j_sipush C dX4_rowAt_13 (by decide) ?_
      refine j_icmp_ge (tgt := 28) C dX4_rowAt_16 (by decide) (by omega) (by omega) (by omega) (by omega) (fun c16 => ?_) (fun c16 => ?_)
      · exfalso; omega
      · refine j_aload_n C dX4_rowAt_19 rfl ?_
        refine j_get C 0 0 1 rfl rfl rfl wU_X4 (by decide) wF_X4_18 rfl dX4_rowAt_20 ?_
        refine j_iload_n C dX4_rowAt_23 rfl ?_
        refine j_iald C 1 0 rfl rfl dX4_rowAt_24 (by decide) (by omega) (by omega) ?_
        refine j_goto (tgt := 30) C dX4_rowAt_25 (by decide) ?_
        exact hR () dX4_rowAt_30 (by rfl) rfl (Nat.le_of_ble_eq_true rfl) (Nat.le_of_ble_eq_true rfl)
set_option maxHeartbeats 4000000 in
set_option maxRecDepth 100000 in
theorem c_X4_extend : ∀ (n : Nat) (l : Launch) (D : va_G) (cA : Nat → ClassId) (r d : Nat → Nat) (z w u last len : Int) (X F Nx f : Int → Int) (pr : List Int) (L : List (List Int)) (hnl : pr.length + n = 8) (hlen : len = pr.length) (hlast : last = pr.getLastD 0) (hu : u = ((msk pr : Nat) : Int)) (hw : rep w pr) (hpv : PV pr) (hR0 : Rws f z L) (hT : (L ++ E X n pr).length ≤ 2365) (hXb : ∀ q : Int, 0 ≤ q → q < 49 → 0 ≤ X q ∧ X q ≤ 40000), MV (U := Int → Int) l yX4_extend cX4_extend 7 none (rmN (n + 5) 0 0) D cA [.ref (r 0), .int (iI w), .int (iI u), .int (iI last), .int (iI len)] [rgO r (d 0) z, dbO d, [(d 1, aJ (cA 0) 49 X)], [(d 2, aJ (cA 0) 49 F)], [(d 3, aJ (cA 0) 40 Nx)], [(r 1, aJ (cA 0) 2365 f)]] (fun f2 => Rws f2 (((L ++ E X n pr).length : Nat) : Int) (L ++ E X n pr)) (fun f2 => [rgO r (d 0) (((L ++ E X n pr).length : Nat) : Int), dbO d, [(d 1, aJ (cA 0) 49 X)], [(d 2, aJ (cA 0) 49 F)], [(d 3, aJ (cA 0) 40 Nx)], [(r 1, aJ (cA 0) 2365 f2)]]) := by
  intro n
  induction n with
  | zero => intro l D cA r d z w u last len X F Nx f pr L hnl hlen hlast hu hw hpv hR0 hT hXb; exfalso; have := hpv.2.1; omega
  | succ n IH =>
    intro l D cA r d z w u last len X F Nx f pr L hnl hlen hlast hu hw hpv hR0 hT hXb
    refine m_startV pn_X4 rfl (List.forall_mem_cons.mpr ⟨rfl, List.forall_mem_cons.mpr ⟨rfl, List.forall_mem_cons.mpr ⟨rfl, List.forall_mem_cons.mpr ⟨rfl, List.forall_mem_cons.mpr ⟨rfl, fun _ h => absurd h List.not_mem_nil⟩⟩⟩⟩⟩) (Nat.le_of_ble_eq_true rfl) ?_
    intro K C e1 e2 e3 hin hR
    subst e1 e2 e3
    have hz := hR0.1
    subst hz hlen hlast hu
    have hl := last_in hpv
    have hh := head_in hpv
    have hhg := head_get hpv.1
    have hmk : msk pr < 128 := msk_lt pr 0 hpv.2.2.1 (by omega)
    have hT2 : L.length + (if 0 < X (7 * pr.getLastD 0 + pr.headD 0) then [pr] else []).length ≤ 2365 := by rw [E_succ, List.length_append, List.length_append] at hT; omega
    show J K 0 0 [rgO r (d 0) ((L.length : Nat) : Int), dbO d, [(d 1, aJ ((kC K) 0) 49 X)], [(d 2, aJ ((kC K) 0) 49 F)], [(d 3, aJ ((kC K) 0) 40 Nx)], [(r 1, aJ ((kC K) 0) 2365 f)]] [some (.ref (r 0)), some (.int (iI w)), some (.int (iI ((msk pr : Nat) : Int))), some (.int (iI (pr.getLastD 0))), some (.int (iI ((pr.length : Nat) : Int))), none, none] 0 []
    refine j_iload_n C dX4_extend_0 rfl ?_
    refine j_iconst C dX4_extend_1 ?_
    refine j_perm (pm_6 _ _ _ _ _ _) ?_
    refine j_callSi C (As := [.int (iI _), .int (iI _)]) (c_X4_partyIn _ _ _ _ _ (pr) (by exact hw) (by exact hpv.2.2.1) (by exact hpv.2.1) (by first | assumption | omega)) 2 nf_X4_partyIn.2 wL_X4_42 wS_X4_partyIn wIn_X4 wC_X4_partyIn rfl rfl (by constructor <;> (dsimp only [rmN]; omega)) dX4_extend_2 (Nat.le_of_ble_eq_true rfl) ⟨Nat.le_of_ble_eq_true rfl, Nat.le_of_ble_eq_true rfl⟩ (fun x2 u2 h2 => ?_)
    refine j_perm (pr_6 _ _ _ _ _ _) ?_
    rw [show (0 : Int).toNat = 0 from rfl, hhg] at h2
    refine j_ist_5 C dX4_extend_5 rfl ?_
    have L29 : ∀ (f0 : Int → Int) (M0 : List (List Int)) (hR0 : Rws f0 ((M0.length : Nat) : Int) M0) (hM0 : M0 = L ++ (if 0 < X (7 * pr.getLastD 0 + pr.headD 0) then [pr] else [])), J K 0 0 [rgO r (d 0) ((M0.length : Nat) : Int), dbO d, [(d 1, aJ ((kC K) 0) 49 X)], [(d 2, aJ ((kC K) 0) 49 F)], [(d 3, aJ ((kC K) 0) 40 Nx)], [(r 1, aJ ((kC K) 0) 2365 f0)]] [some (.ref (r 0)), some (.int (iI w)), some (.int (iI ((msk pr : Nat) : Int))), some (.int (iI (pr.getLastD 0))), some (.int (iI ((pr.length : Nat) : Int))), some (.int (iI x2)), none] 29 [] := by
      intro f0 M0 hR0 hM0
      refine j_iload C dX4_extend_29 rfl ?_
      refine j_bipush C dX4_extend_31 (by decide) ?_
      refine j_icmp_lt (tgt := 37) C dX4_extend_33 (by decide) (by omega) (by omega) (by omega) (by omega) (fun c33 => ?_) (fun c33 => ?_)
      · have hl7 : pr.length < 7 := by omega
        refine j_iload C dX4_extend_37 rfl ?_
        refine j_iconst C dX4_extend_39 ?_
        refine j_iadd C dX4_extend_40 ?_
        refine j_ist_6 C dX4_extend_41 rfl ?_
        have L43 : ∀ (fuel : Nat) (i : Int) (f1 : Int → Int) (M : List (List Int)) (hi : 0 ≤ i ∧ i ≤ 7 ∧ pr.headD 0 < i) (hR1 : Rws f1 ((M.length : Nat) : Int) M) (hM : M ++ candF (okE X pr) (fun p => E X n (pr ++ [p])) (7 - i).toNat = (L ++ E X (n + 1) pr)) (hf43 : (7 - i).toNat < fuel), J K 0 0 [rgO r (d 0) ((M.length : Nat) : Int), dbO d, [(d 1, aJ ((kC K) 0) 49 X)], [(d 2, aJ ((kC K) 0) 49 F)], [(d 3, aJ ((kC K) 0) 40 Nx)], [(r 1, aJ ((kC K) 0) 2365 f1)]] [some (.ref (r 0)), some (.int (iI w)), some (.int (iI ((msk pr : Nat) : Int))), some (.int (iI (pr.getLastD 0))), some (.int (iI ((pr.length : Nat) : Int))), some (.int (iI x2)), some (.int (iI i))] 43 [] := by
          intro fuel
          induction fuel with
          | zero => intro i f1 M hi hR1 hM hf43; exact absurd hf43 (Nat.not_lt_zero _)
          | succ fuel ih43 =>
            intro i f1 M hi hR1 hM hf43
            refine j_iload C dX4_extend_43 rfl ?_
            refine j_bipush C dX4_extend_45 (by decide) ?_
            refine j_icmp_ge (tgt := 106) C dX4_extend_47 (by decide) (by omega) (by omega) (by omega) (by omega) (fun c47 => ?_) (fun c47 => ?_)
            · refine hR f1 dX4_extend_106 ?_ (by rw [show L ++ E X (n + 1) pr = M from by rw [← hM, show (7 - i).toNat = 0 by omega]; exact List.append_nil M]) (Nat.le_of_ble_eq_true rfl) (Nat.le_of_ble_eq_true rfl)
              have e : M = L ++ E X (n + 1) pr := by rw [← hM, show (7 - i).toNat = 0 by omega]; exact (List.append_nil M).symm
              rw [← e]
              exact hR1
            · refine j_iload_n C dX4_extend_50 rfl ?_
              refine j_iload C dX4_extend_51 rfl ?_
              refine j_ishr C dX4_extend_53 (us_a hmk hi.1 (by omega)) ?_
              refine j_iconst C dX4_extend_54 ?_
              refine j_iand C dX4_extend_55 (us_b hmk hi.1 (by omega)) ?_
              refine j_if_ne (tgt := 100) C dX4_extend_56 (by decide) (by (split <;> omega)) (by (split <;> omega)) (fun c56 => ?_) (fun c56 => ?_)
              · first | skip
                refine j_iinc_6 C dX4_extend_100 rfl ?_
                refine j_goto (tgt := 43) C dX4_extend_103 (by decide) ?_
                exact ih43 _ _ _ (by omega) (by first | exact h97 | exact hR1) (by first | (rw [← hM, candF_step hi.1 (by omega), if_pos (show okE X pr i = true from decide_eq_true ⟨hi.2.2, hnin, by omega⟩), List.append_assoc]) | (rw [← hM, candF_step hi.1 (by omega), if_neg (show ¬ okE X pr i = true from fun q => absurd (of_decide_eq_true q).2.2 (by omega)), List.nil_append]) | (rw [← hM, candF_step hi.1 (by omega), if_neg (show ¬ okE X pr i = true from fun q => (of_decide_eq_true q).2.1 ((msk_mem hpv.2.2.1 hi.1).mp (by apply Classical.byContradiction; intro w; rw [if_neg w] at c56; exact c56 rfl))), List.nil_append])) (by omega)
              · have hnin : i ∉ pr := fun q => by rw [(msk_mem hpv.2.2.1 hi.1).mpr q] at c56; simp at c56
                refine j_aload_n C dX4_extend_59 rfl ?_
                refine j_get C 0 0 0 rfl rfl rfl wU_X4 (by decide) wF_X4_14 rfl dX4_extend_60 ?_
                refine j_iload_n C dX4_extend_63 rfl ?_
                refine j_bipush C dX4_extend_64 (by decide) ?_
                refine j_imul C dX4_extend_66 ?_
                refine j_iload C dX4_extend_67 rfl ?_
                refine j_iadd C dX4_extend_69 ?_
                refine j_perm (pm_6_1_2_3_4 _ _ _ _ _ _) ?_
                refine j_callVi C (As := [.int (iI _)]) (c_X1_sumOf _ _ _ _ _ _ _ _ (by first | assumption | omega)) 1 nf_X1_sumOf (jb := 0) rfl rfl wL_X4_46 wI_X1_sumOf wSe_X1_X1_sumOf wIn_X1 wC_X1_sumOf rfl rfl (by constructor <;> (dsimp only [rmN]; omega)) dX4_extend_70 (Nat.le_of_ble_eq_true rfl) ⟨Nat.le_of_ble_eq_true rfl, Nat.le_of_ble_eq_true rfl⟩ (fun x70 u70 h70 => ?_)
                refine j_perm (pr_6_1_2_3_4 _ _ _ _ _ _) ?_
                rw [if_pos (by omega), show pr.getLastD 0 * 7 + i = 7 * pr.getLastD 0 + i by omega] at h70
                have hb70 := hXb (7 * pr.getLastD 0 + i) (by omega) (by omega)
                refine j_if_le (tgt := 100) C dX4_extend_73 (by decide) (by omega) (by omega) (fun c73 => ?_) (fun c73 => ?_)
                · first | skip
                  refine j_iinc_6 C dX4_extend_100 rfl ?_
                  refine j_goto (tgt := 43) C dX4_extend_103 (by decide) ?_
                  exact ih43 _ _ _ (by omega) (by first | exact h97 | exact hR1) (by first | (rw [← hM, candF_step hi.1 (by omega), if_pos (show okE X pr i = true from decide_eq_true ⟨hi.2.2, hnin, by omega⟩), List.append_assoc]) | (rw [← hM, candF_step hi.1 (by omega), if_neg (show ¬ okE X pr i = true from fun q => absurd (of_decide_eq_true q).2.2 (by omega)), List.nil_append]) | (rw [← hM, candF_step hi.1 (by omega), if_neg (show ¬ okE X pr i = true from fun q => (of_decide_eq_true q).2.1 ((msk_mem hpv.2.2.1 hi.1).mp (by apply Classical.byContradiction; intro w; rw [if_neg w] at c56; exact c56 rfl))), List.nil_append])) (by omega)
                · refine j_aload_n C dX4_extend_76 rfl ?_
                  refine j_iload_n C dX4_extend_77 rfl ?_
                  refine j_iload C dX4_extend_78 rfl ?_
                  refine j_iload C dX4_extend_80 rfl ?_
                  refine j_perm (pm_6 _ _ _ _ _ _) ?_
                  refine j_callSi C (As := [.int (iI _), .int (iI _), .int (iI _)]) (c_X4_rowWith _ _ _ _ _ _ (by exact hw.1) (by omega) (by omega)) 3 nf_X4_rowWith.2 wL_X4_34 wS_X4_rowWith wIn_X4 wC_X4_rowWith rfl rfl (by constructor <;> (dsimp only [rmN]; omega)) dX4_extend_82 (Nat.le_of_ble_eq_true rfl) ⟨Nat.le_of_ble_eq_true rfl, Nat.le_of_ble_eq_true rfl⟩ (fun x82 u82 h82 => ?_)
                  refine j_perm (pr_6 _ _ _ _ _ _) ?_
                  refine j_iload_n C dX4_extend_85 rfl ?_
                  refine j_iconst C dX4_extend_86 ?_
                  refine j_iload C dX4_extend_87 rfl ?_
                  refine j_ishl C dX4_extend_89 (us_c hi.1 (by omega)) ?_
                  refine j_ior C dX4_extend_90 (rb_5 _ _) ?_
                  refine j_iload C dX4_extend_91 rfl ?_
                  refine j_iload C dX4_extend_93 rfl ?_
                  refine j_iconst C dX4_extend_95 ?_
                  refine j_iadd C dX4_extend_96 ?_
                  refine j_perm (pm_6_0_1_2_3_4_5 _ _ _ _ _ _) ?_
                  refine j_callSv C (As := [.ref _, .int (iI _), .int (iI _), .int (iI _), .int (iI _)]) (IH _ _ _ _ _ _ _ _ _ _ _ _ _ _ (pr ++ [i]) (M) (by simp; omega) (by simp) (by rw [last_snoc]) (by rw [msk_snoc]) (by rw [h82]; exact rep_snoc hw (by omega) hi.1 (by omega)) (by exact PV_snoc hpv (by omega) hi.1 (by omega) hnin) (by exact hR1) (by rw [← hM, candF_step hi.1 (by omega), if_pos (show okE X pr i = true from decide_eq_true ⟨hi.2.2, hnin, by omega⟩), ← List.append_assoc, List.length_append] at hT; omega) (by first | assumption | omega)) 5 nf_X4_extend.2 wL_X4_38 wS_X4_extend wIn_X4 wC_X4_extend rfl rfl (by constructor <;> (dsimp only [rmN]; omega)) dX4_extend_97 (Nat.le_of_ble_eq_true rfl) ⟨Nat.le_of_ble_eq_true rfl, Nat.le_of_ble_eq_true rfl⟩ (fun u97 h97 => ?_)
                  refine j_perm (pr_6_0_1_2_3_4_5 _ _ _ _ _ _) ?_
                  first | skip
                  refine j_iinc_6 C dX4_extend_100 rfl ?_
                  refine j_goto (tgt := 43) C dX4_extend_103 (by decide) ?_
                  exact ih43 _ _ _ (by omega) (by first | exact h97 | exact hR1) (by first | (rw [← hM, candF_step hi.1 (by omega), if_pos (show okE X pr i = true from decide_eq_true ⟨hi.2.2, hnin, by omega⟩), List.append_assoc]) | (rw [← hM, candF_step hi.1 (by omega), if_neg (show ¬ okE X pr i = true from fun q => absurd (of_decide_eq_true q).2.2 (by omega)), List.nil_append]) | (rw [← hM, candF_step hi.1 (by omega), if_neg (show ¬ okE X pr i = true from fun q => (of_decide_eq_true q).2.1 ((msk_mem hpv.2.2.1 hi.1).mp (by apply Classical.byContradiction; intro w; rw [if_neg w] at c56; exact c56 rfl))), List.nil_append])) (by omega)
        exact L43 _ _ _ _ (by omega) (by exact hR0) (by rw [← candF_skip (ok := okE X pr) (i := x2 + 1) (by omega) 7 (Nat.le_refl _) (by omega) (by omega) (fun p _ hp => by unfold okE; exact decide_eq_false (fun q => by omega)), hM0, E_succ, List.append_assoc]) (Nat.lt_succ_self _)
      · have eT : L ++ E X (n + 1) pr = M0 := by rw [hM0, show n = 0 by omega, E_full]
        refine hR f0 dX4_extend_36 ?_ (by rw [eT]) (Nat.le_of_ble_eq_true rfl) (Nat.le_of_ble_eq_true rfl)
        show Rws f0 _ _
        rw [eT]
        exact hR0
    refine j_aload_n C dX4_extend_7 rfl ?_
    refine j_get C 0 0 0 rfl rfl rfl wU_X4 (by decide) wF_X4_14 rfl dX4_extend_8 ?_
    refine j_iload_n C dX4_extend_11 rfl ?_
    refine j_bipush C dX4_extend_12 (by decide) ?_
    refine j_imul C dX4_extend_14 ?_
    refine j_iload C dX4_extend_15 rfl ?_
    refine j_iadd C dX4_extend_17 ?_
    refine j_perm (pm_6_1_2_3_4 _ _ _ _ _ _) ?_
    refine j_callVi C (As := [.int (iI _)]) (c_X1_sumOf _ _ _ _ _ _ _ _ (by first | assumption | omega)) 1 nf_X1_sumOf (jb := 0) rfl rfl wL_X4_46 wI_X1_sumOf wSe_X1_X1_sumOf wIn_X1 wC_X1_sumOf rfl rfl (by constructor <;> (dsimp only [rmN]; omega)) dX4_extend_18 (Nat.le_of_ble_eq_true rfl) ⟨Nat.le_of_ble_eq_true rfl, Nat.le_of_ble_eq_true rfl⟩ (fun x18 u18 h18 => ?_)
    refine j_perm (pr_6_1_2_3_4 _ _ _ _ _ _) ?_
    rw [if_pos (by omega), show pr.getLastD 0 * 7 + x2 = 7 * pr.getLastD 0 + pr.headD 0 by omega] at h18
    have hb18 := hXb (7 * pr.getLastD 0 + pr.headD 0) (by omega) (by omega)
    refine j_if_le (tgt := 29) C dX4_extend_21 (by decide) (by omega) (by omega) (fun c21 => ?_) (fun c21 => ?_)
    · exact L29 _ _ (by first | exact hRa | exact hR0) (by first | (rw [if_pos (by omega)]; done) | (rw [if_neg (by omega), List.append_nil]))
    · refine j_aload_n C dX4_extend_24 rfl ?_
      refine j_iload_n C dX4_extend_25 rfl ?_
      refine j_perm (pm_6_0_5 _ _ _ _ _ _) ?_
      refine j_callVv C (As := [.int (iI _)]) (c_X4_addRow _ _ _ _ _ _ _ _ (by rw [if_pos (show 0 < X (7 * pr.getLastD 0 + pr.headD 0) by omega)] at hT2; simp at hT2; omega)) 1 nf_X4_addRow (jb := 0) rfl rfl wL_X4_50 wI_X4_addRow wSe_X4_X4_addRow wIn_X4 wC_X4_addRow rfl rfl (by constructor <;> (dsimp only [rmN]; omega)) dX4_extend_26 (Nat.le_of_ble_eq_true rfl) ⟨Nat.le_of_ble_eq_true rfl, Nat.le_of_ble_eq_true rfl⟩ (fun u26 h26 => ?_)
      refine j_perm (pr_6_0_5 _ _ _ _ _ _) ?_
      have eL : ((L.length : Nat) : Int) + 1 = (((L ++ [pr]).length : Nat) : Int) := by simp
      have hRa := Rws_put hR0 hw
      rw [eL] at hRa ⊢
      exact L29 _ _ (by first | exact hRa | exact hR0) (by first | (rw [if_pos (by omega)]; done) | (rw [if_neg (by omega), List.append_nil]))
