/-! the reference: the room of the ring come to, the next ring -/
theorem mem_getD {x : Int} {l : List Int} (h : x ∈ l) : ∃ k : Nat, k < l.length ∧ l.getD k 0 = x := by
  obtain ⟨k, hk, e⟩ := List.mem_iff_getElem.mp h
  exact ⟨k, hk, by rw [List.getD_eq_getElem?_getD, List.getElem?_eq_getElem hk]; exact e⟩
theorem prs_g {r : List Int} {k : Nat} (hk : k < r.length) : (prs r).getD k 0 = 7 * r.getD k 0 + (if k + 1 < r.length then r.getD (k + 1) 0 else r.headD 0) := prsA_g0 _ r k hk
theorem headD_getD {r : List Int} : r.headD 0 = r.getD 0 0 := by
  cases r with
  | nil => rfl
  | cons x t => rfl
theorem headD_mem {r : List Int} (h : r ≠ []) : r.headD 0 ∈ r := by
  cases r with
  | nil => exact absurd rfl h
  | cons x t => exact List.mem_cons_self
def okC (d : Int → Int) (r : List Int) (p : Int) : Bool := decide (r = [] ∨ okE d r p = true)
def lv1 (d N : Int → Int) (k : Nat) (r : List Int) : List (List Int) := candF (okC d r) (fun p => E d (7 - k) (r ++ [p])) (7 - N (k : Int)).toNat
/-- the rings that are to come yet, of a row of k parties, the numbers that are next at each place -/
def rmn (d N : Int → Int) : Nat → List Int → List (List Int)
  | 0, r => lv1 d N 0 r
  | k + 1, r => lv1 d N (k + 1) r ++ rmn d N k r.dropLast
def rmT (d N : Int → Int) : Nat → List Int → List (List Int)
  | 0, _ => []
  | k + 1, r => rmn d N k r.dropLast
theorem rmn_eq (d N : Int → Int) (k : Nat) (r : List Int) : rmn d N k r = lv1 d N k r ++ rmT d N k r := by
  cases k with
  | zero => exact (List.append_nil _).symm
  | succ k => rfl
theorem rmn_congr {d N N' : Int → Int} : ∀ (k : Nat) (r : List Int), (∀ j : Int, 0 ≤ j → j ≤ k → N j = N' j) → rmn d N k r = rmn d N' k r
  | 0, r, h => by
    unfold rmn lv1
    rw [h ((0 : Nat) : Int) (by omega) (by omega)]
  | k + 1, r, h => by
    rw [rmn, rmn, rmn_congr k _ (fun j a b => h j a (by omega))]
    unfold lv1
    rw [h ((k + 1 : Nat) : Int) (by omega) (by omega)]
theorem rmT_congr {d N N' : Int → Int} {k : Nat} {r : List Int} (h : ∀ j : Int, 0 ≤ j → j < k → N j = N' j) : rmT d N k r = rmT d N' k r := by
  cases k with
  | zero => rfl
  | succ k => exact rmn_congr k _ (fun j a b => h j a (by omega))
theorem candG_nil {ok : Int → Bool} {g : Int → List (List Int)} : ∀ (m : Nat), m ≤ 7 → (∀ p : Int, 7 - m ≤ p → p < 7 → ok p = true → g p = []) → candF ok g m = []
  | 0, _, _ => rfl
  | m + 1, hm, h => by
    rw [candF, candG_nil m (by omega) (fun p a b => h p (by omega) b)]
    split
    · rename_i c
      rw [h _ (by omega) (by omega) c]
      rfl
    · rfl
theorem rmn_s {d N : Int → Int} {k : Nat} {r : List Int} (h0 : 0 ≤ N k) (h1 : N k < 7) : rmn d N k r = (if okC d r (N k) = true then E d (7 - k) (r ++ [N k]) else []) ++ rmn d (st N k (N k + 1)) k r := by
  rw [rmn_eq, rmn_eq d (st N k (N k + 1)), rmT_congr (N' := N) (fun j _ b => st_n (by omega))]
  have e : lv1 d N k r = (if okC d r (N k) = true then E d (7 - k) (r ++ [N k]) else []) ++ lv1 d (st N k (N k + 1)) k r := by
    unfold lv1
    rw [st_s, show (7 - N (k : Int)).toNat = (7 - (N k + 1)).toNat + 1 by omega, candF, show (6 : Int) - (((7 - (N k + 1)).toNat : Nat) : Int) = N k by omega]
  rw [e, List.append_assoc]
def DZ (d : Int → Int) (P : Int) : Prop := (∀ q : Int, 0 ≤ q → q < 49 → 0 ≤ d q ∧ d q ≤ 40000) ∧ ∀ p q : Int, 0 ≤ p → p < 7 → 0 ≤ q → q < 7 → (P ≤ p ∨ P ≤ q ∨ p = q) → d (7 * p + q) = 0
/-- the row that was come to, and the numbers that are next -/
def IT (P : Int) (R N : Int → Int) (r : List Int) : Prop := RWS R r ∧ (r.length ≤ 7 ∧ ∀ y ∈ r, 0 ≤ y ∧ y < 7) ∧ r.Nodup ∧ ∀ j : Int, 0 ≤ j → j ≤ r.length → 0 ≤ N j ∧ N j ≤ P
theorem E_z {d : Int → Int} {P p : Int} (h : DZ d P) (h0 : 0 ≤ p) (h1 : p < 7) (hP : P ≤ p) : ∀ n : Nat, E d n [p] = []
  | 0 => rfl
  | n + 1 => by
    have e := h.2 p p h0 h1 h0 h1 (Or.inl hP)
    rw [E_succ, if_neg (show ¬ 0 < d (7 * [p].getLastD 0 + [p].headD 0) by show ¬ 0 < d (7 * p + p); omega), candG_nil 7 (Nat.le_refl _) (fun q a b hq => ?_)]
    · rfl
    · have w := of_decide_eq_true hq
      have e2 := h.2 p q h0 h1 (by omega) b (Or.inl hP)
      have e3 : 0 < d (7 * p + q) := w.2.2
      omega
theorem rmn_end {d N : Int → Int} {P : Int} (h : DZ d P) (hN : P ≤ N 0) (hP : 0 ≤ P) : rmn d N 0 [] = [] := by
  unfold rmn lv1
  refine candG_nil _ (by show (7 - N 0).toNat ≤ 7; omega) (fun p a b _ => ?_)
  have a' : 7 - (((7 - N 0).toNat : Nat) : Int) ≤ p := a
  exact E_z h (by omega) b (by omega) _
theorem last_rng {r : List Int} (hr : r ≠ []) (hv : ∀ y ∈ r, 0 ≤ y ∧ y < 7) : 0 ≤ r.getLastD 0 ∧ r.getLastD 0 < 7 := by
  have hl := List.length_pos_iff.mpr hr
  have e : r.getLastD 0 = r.getD (r.length - 1) 0 := by rw [List.getLastD_eq_getLast?, List.getLast?_eq_getElem?, List.getD_eq_getElem?_getD]
  rw [e]
  exact hv _ (getD_mem (by omega))
theorem rmn_pop {d N : Int → Int} {P : Int} {r : List Int} (h : DZ d P) (hr : r ≠ []) (hv : ∀ y ∈ r, 0 ≤ y ∧ y < 7) (hP : 0 ≤ P) (hN : P ≤ N r.length) : rmn d N r.dropLast.length r.dropLast = rmn d N r.length r := by
  have hl := List.length_pos_iff.mpr hr
  have e : r.length = r.dropLast.length + 1 := by rw [List.length_dropLast]; omega
  rw [e, rmn]
  have e0 : lv1 d N (r.dropLast.length + 1) r = [] := by
    unfold lv1
    rw [← e]
    refine candG_nil _ (by omega) (fun p a b hq => ?_)
    exfalso
    have w := of_decide_eq_true hq
    rcases w with w | w
    · exact hr w
    · have w2 := of_decide_eq_true w
      have hb := last_rng hr hv
      have e2 := h.2 (r.getLastD 0) p hb.1 hb.2 (by omega) b (Or.inr (Or.inl (by omega)))
      have e3 := w2.2.2
      omega
  rw [e0]
  rfl
theorem okC_ne (d : Int → Int) {r : List Int} (hr : r ≠ []) : okC d r = okE d r := by
  funext p
  unfold okC
  cases h : okE d r p
  · exact decide_eq_false (fun q => by rcases q with q | q; exact hr q; cases q)
  · exact decide_eq_true (Or.inr rfl)
theorem rmn_go {d N : Int → Int} {r : List Int} (hk : r.length ≤ 6) (h0 : 0 ≤ N r.length) (h1 : N r.length < 7) (ho : okC d r (N r.length) = true) : rmn d N r.length r = (if 0 < d (7 * N r.length + (r ++ [N r.length]).headD 0) then [r ++ [N r.length]] else []) ++ rmn d (st (st N r.length (N r.length + 1)) (r.length + 1) 0) (r ++ [N r.length]).length (r ++ [N r.length]) := by
  rw [rmn_s h0 h1, if_pos ho, show 7 - r.length = (6 - r.length) + 1 by omega, E_succ, last_snoc, List.append_assoc]
  congr 1
  rw [show (r ++ [N r.length]).length = r.length + 1 by simp, rmn, List.dropLast_concat, rmn_congr (N' := st N r.length (N r.length + 1)) r.length r (fun j _ b => st_n (by omega))]
  congr 1
  unfold lv1
  rw [okC_ne d (by simp : r ++ [N r.length] ≠ []), show (((r.length + 1 : Nat) : Int)) = (r.length : Int) + 1 by omega, st_s, show 7 - (r.length + 1) = 6 - r.length by omega]
  rfl
theorem IT_pop {P : Int} {R N : Int → Int} {r : List Int} (h : IT P R N r) (hr : r ≠ []) : IT P R N r.dropLast := by
  have hl := List.length_pos_iff.mpr hr
  have e : r.dropLast.length = r.length - 1 := List.length_dropLast
  have h7 := h.2.1.1
  refine ⟨fun k a b => ?_, ⟨by omega, fun y hy => h.2.1.2 y (List.dropLast_subset r hy)⟩, h.2.2.1.sublist (List.dropLast_sublist r), fun j a b => h.2.2.2 j a (by omega)⟩
  rw [h.1 k a (by omega), List.getD_eq_getElem?_getD, List.getD_eq_getElem?_getD, List.getElem?_dropLast, if_pos (by omega)]
theorem IT_nx {P : Int} {R N : Int → Int} {r : List Int} (h : IT P R N r) (hn : N r.length < P) : IT P R (st N r.length (N r.length + 1)) r := by
  refine ⟨h.1, h.2.1, h.2.2.1, fun j a b => ?_⟩
  by_cases c : j = r.length
  · rw [c, st_s]
    have := h.2.2.2 r.length (by omega) (by omega)
    omega
  · rw [st_n c]
    exact h.2.2.2 j a b
theorem IT_go {P : Int} {d R N : Int → Int} {r : List Int} (h : IT P R N r) (hP : P ≤ 7) (hn : N r.length < P) (ho : okC d r (N r.length) = true) : r.length ≤ 6 ∧ IT P (st R r.length (N r.length)) (st (st N r.length (N r.length + 1)) (r.length + 1) 0) (r ++ [N r.length]) := by
  have hb := h.2.2.2 r.length (by omega) (by omega)
  have hnin : N r.length ∉ r := by
    rcases of_decide_eq_true ho with w | w
    · rw [w]; exact List.not_mem_nil
    · exact (of_decide_eq_true w).2.1
  have hnd : (r ++ [N r.length]).Nodup := List.nodup_append.mpr ⟨h.2.2.1, by simp, fun a ha b hb e => by rw [List.mem_singleton.mp hb] at e; exact hnin (e ▸ ha)⟩
  have hv : ∀ y ∈ r ++ [N r.length], 0 ≤ y ∧ y < 7 := fun y hy => by
    rcases List.mem_append.mp hy with q | q
    · exact h.2.1.2 y q
    · rw [List.mem_singleton.mp q]; omega
  have h7 := nd7_le hnd hv
  rw [List.length_append, List.length_singleton] at h7
  refine ⟨by omega, ?_, ⟨by rw [List.length_append, List.length_singleton]; omega, hv⟩, hnd, fun j a b => ?_⟩
  · intro k a b
    rw [List.length_append, List.length_singleton] at b
    by_cases c : k = r.length
    · rw [c, st_s, Int.toNat_natCast, List.getD_eq_getElem?_getD, List.getElem?_append_right (Nat.le_refl _)]
      simp
    · rw [st_n c, h.1 k a (by omega), List.getD_eq_getElem?_getD, List.getD_eq_getElem?_getD, List.getElem?_append_left (by omega)]
  · rw [List.length_append, List.length_singleton] at b
    by_cases c : j = r.length + 1
    · rw [c, st_s]; omega
    · rw [st_n c]
      by_cases c2 : j = r.length
      · rw [c2, st_s]; omega
      · rw [st_n c2]
        exact h.2.2.2 j a (by omega)
/-- a measure of what is to come -/
def msr (N : Int → Int) : Nat → Nat
  | 0 => (8 - N 0).toNat * 9 ^ 8
  | k + 1 => msr N k + (8 - N ((k + 1 : Nat) : Int)).toNat * 9 ^ (7 - k)
theorem msr_congr {N N' : Int → Int} : ∀ k : Nat, (∀ j : Int, 0 ≤ j → j ≤ k → N j = N' j) → msr N k = msr N' k
  | 0, h => by
    unfold msr
    rw [h 0 (by omega) (by omega)]
  | k + 1, h => by
    rw [msr, msr, msr_congr k (fun j a b => h j a (by omega)), h _ (by omega) (by omega)]
theorem msr_s {N : Int → Int} {k : Nat} (h1 : N k < 8) : msr (st N k (N k + 1)) k + 9 ^ (8 - k) = msr N k := by
  cases k with
  | zero =>
    have h2 : N 0 < 8 := h1
    show (8 - st N 0 (N 0 + 1) 0).toNat * 9 ^ 8 + 9 ^ 8 = (8 - N 0).toNat * 9 ^ 8
    rw [st_s, show (8 - N 0).toNat = (8 - (N 0 + 1)).toNat + 1 by omega, Nat.add_mul, Nat.one_mul]
  | succ k =>
    rw [msr, msr, st_s, msr_congr (N' := N) k (fun j a b => st_n (by omega)), show (8 - N ((k + 1 : Nat) : Int)).toNat = (8 - (N ((k + 1 : Nat) : Int) + 1)).toNat + 1 by omega, Nat.add_mul, Nat.one_mul, show 8 - (k + 1) = 7 - k by omega, Nat.add_assoc]
theorem msr_go {N : Int → Int} {k : Nat} (hk : k ≤ 6) (h1 : N k < 8) : msr (st (st N k (N k + 1)) ((k : Int) + 1) 0) (k + 1) < msr N k := by
  rw [msr, msr_congr (N' := st N k (N k + 1)) k (fun j a b => st_n (by omega)), show ((k + 1 : Nat) : Int) = (k : Int) + 1 by omega, st_s, ← msr_s h1, show 8 - k = (7 - k) + 1 by omega, Nat.pow_succ]
  have : 0 < 9 ^ (7 - k) := Nat.pow_pos (by omega)
  have e8 : (8 - (0 : Int)).toNat = 8 := rfl
  rw [e8]
  omega
theorem msr_pop {N : Int → Int} {r : List Int} (hr : r ≠ []) (h1 : N r.length < 8) : msr N r.dropLast.length < msr N r.length := by
  have hl := List.length_pos_iff.mpr hr
  have e : r.length = r.dropLast.length + 1 := by rw [List.length_dropLast]; omega
  rw [e] at h1 ⊢
  rw [msr]
  have h9 : 0 < 9 ^ (7 - r.dropLast.length) := Nat.pow_pos (by omega)
  have h8 : 0 < (8 - N ((r.dropLast.length + 1 : Nat) : Int)).toNat := by omega
  have := Nat.mul_pos h8 h9
  omega
theorem pm_4_0_1_3 (B0 B1 B2 B3 : va_W) : [B0, B1, B2, B3].Perm ([B0, B1, B3] ++ [B2]) := List.Perm.trans (List.Perm.refl _) (List.Perm.trans (List.Perm.cons _ (List.Perm.refl _)) (List.Perm.cons _ (List.Perm.cons _ (List.perm_middle (l₁ := [B2]) (a := B3) (l₂ := [])))))
theorem pr_4_0_1_3 (B0 B1 B2 B3 : va_W) : ([B0, B1, B3] ++ [B2]).Perm [B0, B1, B2, B3] := (pm_4_0_1_3 B0 B1 B2 B3).symm
set_option maxHeartbeats 4000000 in
set_option maxRecDepth 100000 in
theorem c_X6_roomOf (l : Launch) (D : va_G) (cA : Nat → ClassId) (a : Nat → Nat) (G R D1 : Int → Int) (r : List Int) (hG : G 4 = (r.length : Int)) (hR0 : RWS R r) (hr : r.length ≤ 7 ∧ ∀ y ∈ r, 0 ≤ y ∧ y < 7) (hne : r ≠ []) (hD : ∀ q : Int, 0 ≤ q → q < 49 → 0 ≤ D1 q ∧ D1 q ≤ 40000) : MI (U := Unit) l yX6_roomOf cX6_roomOf 3 (some .int) (rmN 2 0 0) D cA [.ref (a 0)] [mO a G, [(a 7, aJ (cA 0) 8 R)], [(a 5, aJ (cA 0) 49 D1)]] (fun x _ => x = rmC D1 (prs r)) (fun _ => [mO a G, [(a 7, aJ (cA 0) 8 R)], [(a 5, aJ (cA 0) 49 D1)]]) := by
  refine m_startI pn_X6 rfl (List.forall_mem_cons.mpr ⟨rfl, fun _ h => absurd h List.not_mem_nil⟩) (Nat.le_of_ble_eq_true rfl) ?_
  intro K C e1 e2 e3 hin hR
  subst e1 e2 e3
  have hl : 0 < r.length := List.length_pos_iff.mpr hne
  have hx0 := hR0 0 (Int.le_refl _) (by omega)
  rw [show (0 : Int).toNat = 0 from rfl] at hx0
  have hx1 := hR0 (G 4 - 1) (by omega) (by omega)
  rw [show (G 4 - 1).toNat = r.length - 1 by omega] at hx1
  have hb0 := hr.2 _ (getD_mem (l := r) (z := 0) (k := 0) hl)
  have hb1 := hr.2 _ (getD_mem (l := r) (z := 0) (k := r.length - 1) (by omega))
  have hpl := prs_g (r := r) (k := r.length - 1) (by omega)
  rw [if_neg (by omega), headD_getD, ← hx0, ← hx1] at hpl
  have hDl := hD (7 * R (G 4 - 1) + R 0) (by omega) (by omega)
  have hpn : 0 < (prs r).length := by rw [prs_len]; exact hl
  show J K 0 0 [mO a G, [(a 7, aJ ((kC K) 0) 8 R)], [(a 5, aJ ((kC K) 0) 49 D1)]] [some (.ref (a 0)), none, none] 0 []
  refine j_aload_n C dX6_roomOf_0 rfl ?_
  refine j_get C 0 0 7 rfl rfl rfl wU_X6 (by decide) wF_X6_22 rfl dX6_roomOf_1 ?_
  refine j_bipush C dX6_roomOf_4 (by decide) ?_
  refine j_aload_n C dX6_roomOf_6 rfl ?_
  refine j_get C 0 0 10 rfl rfl rfl wU_X6 (by decide) wF_X6_28 rfl dX6_roomOf_7 ?_
  refine j_aload_n C dX6_roomOf_10 rfl ?_
  refine j_get C 0 0 12 rfl rfl rfl wU_X6 (by decide) wF_X6_86 rfl dX6_roomOf_11 ?_
  refine j_iconst C dX6_roomOf_14 ?_
  refine j_isub C dX6_roomOf_15 ?_
  refine j_iald C 1 0 rfl rfl dX6_roomOf_16 (by decide) (by omega) (by omega) ?_
  refine j_imul C dX6_roomOf_17 ?_
  refine j_aload_n C dX6_roomOf_18 rfl ?_
  refine j_get C 0 0 10 rfl rfl rfl wU_X6 (by decide) wF_X6_28 rfl dX6_roomOf_19 ?_
  refine j_iconst C dX6_roomOf_22 ?_
  refine j_iald C 1 0 rfl rfl dX6_roomOf_23 (by decide) (by omega) (by omega) ?_
  refine j_iadd C dX6_roomOf_24 ?_
  refine j_iald C 2 0 rfl rfl dX6_roomOf_25 (by decide) (by omega) (by omega) ?_
  refine j_istn_1 C dX6_roomOf_26 rfl ?_
  refine j_iconst C dX6_roomOf_27 ?_
  refine j_istn_2 C dX6_roomOf_28 rfl ?_
  have L29 : ∀ (fuel : Nat) (y k : Int) (hk : 0 ≤ k ∧ k + 1 ≤ (r.length : Int)) (hyb : 0 ≤ y ∧ y ≤ 40000) (hy1 : ∀ j : Nat, (j : Int) < k → y ≤ D1 ((prs r).getD j 0)) (hy2 : y ≤ D1 ((prs r).getD (r.length - 1) 0)) (hy3 : ∃ q ∈ prs r, y = D1 q) (hf29 : (7 - k).toNat < fuel), J K 0 0 [mO a G, [(a 7, aJ ((kC K) 0) 8 R)], [(a 5, aJ ((kC K) 0) 49 D1)]] [some (.ref (a 0)), some (.int (iI y)), some (.int (iI k))] 29 [] := by
    intro fuel
    induction fuel with
    | zero => intro y k hk hyb hy1 hy2 hy3 hf29; exact absurd hf29 (Nat.not_lt_zero _)
    | succ fuel ih29 =>
      intro y k hk hyb hy1 hy2 hy3 hf29
      refine j_iload_n C dX6_roomOf_29 rfl ?_
      refine j_iconst C dX6_roomOf_30 ?_
      refine j_iadd C dX6_roomOf_31 ?_
      refine j_aload_n C dX6_roomOf_32 rfl ?_
      refine j_get C 0 0 12 rfl rfl rfl wU_X6 (by decide) wF_X6_86 rfl dX6_roomOf_33 ?_
      refine j_icmp_ge (tgt := 73) C dX6_roomOf_36 (by decide) (by omega) (by omega) (by omega) (by omega) (fun c36 => ?_) (fun c36 => ?_)
      · refine j_iload_n C dX6_roomOf_73 rfl ?_
        refine hR () dX6_roomOf_74 ?_ rfl (Nat.le_of_ble_eq_true rfl) (Nat.le_of_ble_eq_true rfl)
        refine rmC_uniq (List.length_pos_iff.mp hpn) (fun q hq => ?_) hy3
        obtain ⟨j, hj, rfl⟩ := mem_getD hq
        rw [prs_len] at hj
        by_cases c : (j : Int) < k
        · exact hy1 j c
        · rw [show j = r.length - 1 by omega]; exact hy2
      · have hRk := hR0 k hk.1 (by omega)
        have hRk1 := hR0 (k + 1) (by omega) (by omega)
        have hb2 := hr.2 _ (getD_mem (l := r) (z := 0) (k := k.toNat) (by omega))
        have hb3 := hr.2 _ (getD_mem (l := r) (z := 0) (k := (k + 1).toNat) (by omega))
        have hpk := prs_g (r := r) (k := k.toNat) (by omega)
        rw [if_pos (by omega), show k.toNat + 1 = (k + 1).toNat by omega, ← hRk, ← hRk1] at hpk
        have hDk := hD (7 * R k + R (k + 1)) (by omega) (by omega)
        refine j_iload_n C dX6_roomOf_39 rfl ?_
        refine j_aload_n C dX6_roomOf_40 rfl ?_
        refine j_get C 0 0 7 rfl rfl rfl wU_X6 (by decide) wF_X6_22 rfl dX6_roomOf_41 ?_
        refine j_bipush C dX6_roomOf_44 (by decide) ?_
        refine j_aload_n C dX6_roomOf_46 rfl ?_
        refine j_get C 0 0 10 rfl rfl rfl wU_X6 (by decide) wF_X6_28 rfl dX6_roomOf_47 ?_
        refine j_iload_n C dX6_roomOf_50 rfl ?_
        refine j_iald C 1 0 rfl rfl dX6_roomOf_51 (by decide) (by omega) (by omega) ?_
        refine j_imul C dX6_roomOf_52 ?_
        refine j_aload_n C dX6_roomOf_53 rfl ?_
        refine j_get C 0 0 10 rfl rfl rfl wU_X6 (by decide) wF_X6_28 rfl dX6_roomOf_54 ?_
        refine j_iload_n C dX6_roomOf_57 rfl ?_
        refine j_iconst C dX6_roomOf_58 ?_
        refine j_iadd C dX6_roomOf_59 ?_
        refine j_iald C 1 0 rfl rfl dX6_roomOf_60 (by decide) (by omega) (by omega) ?_
        refine j_iadd C dX6_roomOf_61 ?_
        refine j_iald C 2 0 rfl rfl dX6_roomOf_62 (by decide) (by omega) (by omega) ?_
        refine j_perm (pm_3 _ _ _) ?_
        refine j_callSi C (As := [.int (iI _), .int (iI _)]) (c_X6_least _ _ _ _ _ (by first | assumption | omega) (by first | assumption | omega)) 2 nf_X6_least.2 wL_X6_104 wS_X6_least wIn_X6 wC_X6_least rfl rfl (by decide) dX6_roomOf_63 (Nat.le_of_ble_eq_true rfl) ⟨Nat.le_of_ble_eq_true rfl, Nat.le_of_ble_eq_true rfl⟩ (fun x63 u63 h63 => ?_)
        refine j_perm (pr_3 _ _ _) ?_
        refine j_istn_1 C dX6_roomOf_66 rfl ?_
        refine j_iinc_2 C dX6_roomOf_67 rfl ?_
        refine j_goto (tgt := 29) C dX6_roomOf_70 (by decide) ?_
        exact ih29 _ _ (by omega) (by omega) (by intro j hj; by_cases c : (j : Int) = k; (rw [show j = k.toNat by omega, hpk]; omega); (have := hy1 j (by omega); omega)) (by omega) (by rcases (show x63 = y ∨ x63 = D1 (7 * R k + R (k + 1)) by omega) with e | e; (obtain ⟨q, hq, e2⟩ := hy3; exact ⟨q, hq, e.trans e2⟩); exact ⟨_, hpk ▸ getD_mem (by rw [prs_len]; omega), e⟩) (by omega)
  exact L29 _ _ _ (by omega) (by omega) (by intro j hj; omega) (by rw [hpl]; exact Int.le_refl _) (by exact ⟨_, hpl ▸ getD_mem (by rw [prs_len]; omega), rfl⟩) (Nat.lt_succ_self _)
set_option maxHeartbeats 4000000 in
set_option maxRecDepth 100000 in
theorem c_X6_comes (l : Launch) (D : va_G) (cA : Nat → ClassId) (a : Nat → Nat) (G R N D1 : Int → Int) (r : List Int) (hG : G 4 = (r.length : Int)) (hG3 : 2 ≤ G 3 ∧ G 3 ≤ 7) (hDZ : DZ D1 (G 3)) (hI0 : IT (G 3) R N r) : MI (U := (Int → Int) × (Int → Int) × List Int) l yX6_comes cX6_comes 2 (some .boolean) (rmN 3 0 0) D cA [.ref (a 0)] [mO a G, [(a 7, aJ (cA 0) 8 R)], [(a 8, aJ (cA 0) 9 N)], [(a 5, aJ (cA 0) 49 D1)]] (fun x u => IT (G 3) u.1 u.2.1 u.2.2 ∧ ((x = 0 ∧ rmn D1 N r.length r = [] ∧ u.2.2 = []) ∨ (x = 1 ∧ rmn D1 N r.length r = u.2.2 :: rmn D1 u.2.1 u.2.2.length u.2.2))) (fun u => [mO a (st G 4 (u.2.2.length : Int)), [(a 7, aJ (cA 0) 8 u.1)], [(a 8, aJ (cA 0) 9 u.2.1)], [(a 5, aJ (cA 0) 49 D1)]]) := by
  refine m_startZ pn_X6 rfl (List.forall_mem_cons.mpr ⟨rfl, fun _ h => absurd h List.not_mem_nil⟩) (Nat.le_of_ble_eq_true rfl) ?_
  intro K C e1 e2 e3 hin hR
  subst e1 e2 e3
  show J K 0 0 [mO a G, [(a 7, aJ ((kC K) 0) 8 R)], [(a 8, aJ ((kC K) 0) 9 N)], [(a 5, aJ ((kC K) 0) 49 D1)]] [some (.ref (a 0)), none] 0 []
  have L0 : ∀ (fuel : Nat) (G1 R1 N2 : Int → Int) (r1 : List Int) (hG1 : G1 = st G 4 (r1.length : Int)) (hIT : IT (G 3) R1 N2 r1) (hrm : rmn D1 N2 r1.length r1 = rmn D1 N r.length r) (hf0 : msr N2 r1.length < fuel), J K 0 0 [mO a G1, [(a 7, aJ ((kC K) 0) 8 R1)], [(a 8, aJ ((kC K) 0) 9 N2)], [(a 5, aJ ((kC K) 0) 49 D1)]] [some (.ref (a 0)), none] 0 [] := by
    intro fuel
    induction fuel with
    | zero => intro G1 R1 N2 r1 hG1 hIT hrm hf0; exact absurd hf0 (Nat.not_lt_zero _)
    | succ fuel ih0 =>
      intro G1 R1 N2 r1 hG1 hIT hrm hf0
      have e4 : G1 4 = (r1.length : Int) := by rw [hG1]; exact st_s _ _ _
      have e3 : G1 3 = G 3 := by rw [hG1]; exact st_n (by omega)
      have hl7 := hIT.2.1.1
      have hN0 := hIT.2.2.2 0 (Int.le_refl _) (by omega)
      have hNk := hIT.2.2.2 (G1 4) (by omega) (by omega)
      refine j_aload_n C dX6_comes_0 rfl ?_
      refine j_get C 0 0 12 rfl rfl rfl wU_X6 (by decide) wF_X6_86 rfl dX6_comes_1 ?_
      have L20 : ∀ (hq : 0 < G1 4 ∨ N2 0 < G1 3), J K 0 0 [mO a G1, [(a 7, aJ ((kC K) 0) 8 R1)], [(a 8, aJ ((kC K) 0) 9 N2)], [(a 5, aJ ((kC K) 0) 49 D1)]] [some (.ref (a 0)), none] 20 [] := by
        intro  hq
        refine j_aload_n C dX6_comes_20 rfl ?_
        refine j_get C 0 0 11 rfl rfl rfl wU_X6 (by decide) wF_X6_31 rfl dX6_comes_21 ?_
        refine j_aload_n C dX6_comes_24 rfl ?_
        refine j_get C 0 0 12 rfl rfl rfl wU_X6 (by decide) wF_X6_86 rfl dX6_comes_25 ?_
        refine j_iald C 2 0 rfl rfl dX6_comes_28 (by decide) (by omega) (by omega) ?_
        refine j_istn_1 C dX6_comes_29 rfl ?_
        refine j_iload_n C dX6_comes_30 rfl ?_
        refine j_aload_n C dX6_comes_31 rfl ?_
        refine j_get C 0 0 9 rfl rfl rfl wU_X6 (by decide) wF_X6_83 rfl dX6_comes_32 ?_
        refine j_icmp_lt (tgt := 51) C dX6_comes_35 (by decide) (by omega) (by omega) (by omega) (by omega) (fun c35 => ?_) (fun c35 => ?_)
        · refine j_aload_n C dX6_comes_51 rfl ?_
          refine j_get C 0 0 11 rfl rfl rfl wU_X6 (by decide) wF_X6_31 rfl dX6_comes_52 ?_
          refine j_aload_n C dX6_comes_55 rfl ?_
          refine j_get C 0 0 12 rfl rfl rfl wU_X6 (by decide) wF_X6_86 rfl dX6_comes_56 ?_
          refine j_dup2 C dX6_comes_59 rfl rfl ?_
          refine j_iald C 2 0 rfl rfl dX6_comes_60 (by decide) (by omega) (by omega) ?_
          refine j_iconst C dX6_comes_61 ?_
          refine j_iadd C dX6_comes_62 ?_
          refine j_iast_p2 C 0 rfl ar1_ast dX6_comes_63 (by decide) (by omega) (by omega) ?_
          refine j_aload_n C dX6_comes_64 rfl ?_
          refine j_iload_n C dX6_comes_65 rfl ?_
          refine j_perm (pm_4_0_1_3 _ _ _ _) ?_
          refine j_callVi C (As := [.int (iI _)]) (c_X6_canCome _ _ _ _ _ _ _ (r1) _ (by exact e4) (by exact hIT.1) (by exact hIT.2.1) (by omega) (by exact hDZ.1)) 1 nf_X6_canCome (jb := 0) rfl rfl wL_X6_93 wI_X6_canCome wSe_X6_X6_canCome wIn_X6 wC_X6_canCome rfl rfl (by decide) dX6_comes_66 (Nat.le_of_ble_eq_true rfl) ⟨Nat.le_of_ble_eq_true rfl, Nat.le_of_ble_eq_true rfl⟩ (fun x66 u66 h66 => ?_)
          refine j_perm (pr_4_0_1_3 _ _ _ _) ?_
          refine j_if_ne (tgt := 75) C dX6_comes_69 (by decide) (by omega) (by omega) (fun c69 => ?_) (fun c69 => ?_)
          · have hok : okC D1 r1 (N2 (G1 4)) = true := decide_eq_true (Classical.byContradiction (fun q => by rw [h66, if_neg q] at c69; exact c69 rfl))
            have hok2 : okC D1 r1 (N2 (r1.length : Int)) = true := by rw [← e4]; exact hok
            have hgo := IT_go hIT hG3.2 (by rw [← e4]; omega) hok2
            have hg6 := hgo.1
            have hrg := rmn_go (d := D1) (N := N2) hgo.1 (by rw [← e4]; omega) (by rw [← e4]; omega) hok2
            have e5 : st G1 4 (G1 4 + 1) 4 = G1 4 + 1 := st_s _ _ _
            have hG9 : st G1 4 (G1 4 + 1) = st G 4 (((r1 ++ [N2 (G1 4)]).length : Nat) : Int) := by rw [e4, hG1, st_st, List.length_append]; rfl
            refine j_aload_n C dX6_comes_75 rfl ?_
            refine j_get C 0 0 10 rfl rfl rfl wU_X6 (by decide) wF_X6_28 rfl dX6_comes_76 ?_
            refine j_aload_n C dX6_comes_79 rfl ?_
            refine j_get C 0 0 12 rfl rfl rfl wU_X6 (by decide) wF_X6_86 rfl dX6_comes_80 ?_
            refine j_iload_n C dX6_comes_83 rfl ?_
            refine j_iast_p1 C 0 rfl ar1_ast dX6_comes_84 (by decide) (by omega) (by omega) ?_
            refine j_aload_n C dX6_comes_85 rfl ?_
            refine j_dup C dX6_comes_86 rfl ?_
            refine j_get C 0 0 12 rfl rfl rfl wU_X6 (by decide) wF_X6_86 rfl dX6_comes_87 ?_
            refine j_iconst C dX6_comes_90 ?_
            refine j_iadd C dX6_comes_91 ?_
            refine j_put_p0 C 0 12 rfl mO_put4 rfl wU_X6 tyX6_ok nmX6 (by decide) wF_X6_86 rfl rfl rfl (Nat.le_of_ble_eq_true rfl) dX6_comes_92 ?_
            refine j_aload_n C dX6_comes_95 rfl ?_
            refine j_get C 0 0 11 rfl rfl rfl wU_X6 (by decide) wF_X6_31 rfl dX6_comes_96 ?_
            refine j_aload_n C dX6_comes_99 rfl ?_
            refine j_get C 0 0 12 rfl rfl rfl wU_X6 (by decide) wF_X6_86 rfl dX6_comes_100 ?_
            refine j_iconst C dX6_comes_103 ?_
            refine j_iast_p2 C 0 rfl ar1_ast dX6_comes_104 (by decide) (by omega) (by omega) ?_
            refine j_aload_n C dX6_comes_105 rfl ?_
            refine j_get C 0 0 12 rfl rfl rfl wU_X6 (by decide) wF_X6_86 rfl dX6_comes_106 ?_
            refine j_iconst C dX6_comes_109 ?_
            refine j_icmp_le (tgt := 134) C dX6_comes_110 (by decide) (by omega) (by omega) (by omega) (by omega) (fun c110 => ?_) (fun c110 => ?_)
            · first
              | (have hnr : ¬ 0 < D1 (7 * N2 (r1.length : Int) + (r1 ++ [N2 (r1.length : Int)]).headD 0) := by
                  have hr0 : r1 = [] := List.length_eq_zero_iff.mp (by omega)
                  rw [hr0]
                  have := hDZ.2 (N2 0) (N2 0) hN0.1 (by omega) hN0.1 (by omega) (Or.inr (Or.inr rfl))
                  show ¬ 0 < D1 (7 * N2 0 + N2 0)
                  omega)
              | skip
              refine j_goto (tgt := 0) C dX6_comes_134 (by decide) ?_
              exact j_lle (lv' := [_, none]) ⟨Or.inr rfl, ⟨Or.inl rfl, trivial⟩⟩ (ih0 _ _ _ (r1 ++ [N2 (G1 4)]) (by exact hG9) (by rw [e5, e4]; exact hgo.2) (by rw [← hrm, e5, e4, hrg, if_neg (by first | exact hnr | (rw [← e4]; omega)), List.nil_append]) (by first | (rw [e5, e4, List.length_append, List.length_singleton]; have := msr_go (N := N2) (k := r1.length) (by omega) (by rw [← e4]; omega); omega) | (rw [e4]; have := msr_s (N := N2) (k := r1.length) (by rw [← e4]; omega); have : 0 < 9 ^ (8 - r1.length) := Nat.pow_pos (by omega); omega) | (have := msr_pop (N := N2) hne1 (by rw [← e4]; omega); omega)))
            · have hh := RWS_head hgo.2.1 (by simp)
              have hv1 := hgo.2.2.1.2 _ (headD_mem (r := r1 ++ [N2 (r1.length : Int)]) (by simp))
              rw [← hh] at hv1 hrg
              rw [← e4] at hv1
              have hDq := hDZ.1 (7 * N2 (G1 4) + st R1 (G1 4) (N2 (G1 4)) 0) (by omega) (by omega)
              refine j_aload_n C dX6_comes_113 rfl ?_
              refine j_get C 0 0 7 rfl rfl rfl wU_X6 (by decide) wF_X6_22 rfl dX6_comes_114 ?_
              refine j_bipush C dX6_comes_117 (by decide) ?_
              refine j_iload_n C dX6_comes_119 rfl ?_
              refine j_imul C dX6_comes_120 ?_
              refine j_aload_n C dX6_comes_121 rfl ?_
              refine j_get C 0 0 10 rfl rfl rfl wU_X6 (by decide) wF_X6_28 rfl dX6_comes_122 ?_
              refine j_iconst C dX6_comes_125 ?_
              refine j_iald C 1 0 rfl rfl dX6_comes_126 (by decide) (by omega) (by omega) ?_
              refine j_iadd C dX6_comes_127 ?_
              refine j_iald C 3 0 rfl rfl dX6_comes_128 (by decide) (by omega) (by omega) ?_
              refine j_if_le (tgt := 134) C dX6_comes_129 (by decide) (by omega) (by omega) (fun c129 => ?_) (fun c129 => ?_)
              · first
                | (have hnr : ¬ 0 < D1 (7 * N2 (r1.length : Int) + (r1 ++ [N2 (r1.length : Int)]).headD 0) := by
                    have hr0 : r1 = [] := List.length_eq_zero_iff.mp (by omega)
                    rw [hr0]
                    have := hDZ.2 (N2 0) (N2 0) hN0.1 (by omega) hN0.1 (by omega) (Or.inr (Or.inr rfl))
                    show ¬ 0 < D1 (7 * N2 0 + N2 0)
                    omega)
                | skip
                refine j_goto (tgt := 0) C dX6_comes_134 (by decide) ?_
                exact j_lle (lv' := [_, none]) ⟨Or.inr rfl, ⟨Or.inl rfl, trivial⟩⟩ (ih0 _ _ _ (r1 ++ [N2 (G1 4)]) (by exact hG9) (by rw [e5, e4]; exact hgo.2) (by rw [← hrm, e5, e4, hrg, if_neg (by first | exact hnr | (rw [← e4]; omega)), List.nil_append]) (by first | (rw [e5, e4, List.length_append, List.length_singleton]; have := msr_go (N := N2) (k := r1.length) (by omega) (by rw [← e4]; omega); omega) | (rw [e4]; have := msr_s (N := N2) (k := r1.length) (by rw [← e4]; omega); have : 0 < 9 ^ (8 - r1.length) := Nat.pow_pos (by omega); omega) | (have := msr_pop (N := N2) hne1 (by rw [← e4]; omega); omega)))
              · refine j_iconst C dX6_comes_132 ?_
                refine hR (st R1 (G1 4) (N2 (G1 4)), st (st N2 (G1 4) (N2 (G1 4) + 1)) (st G1 4 (G1 4 + 1) 4) 0, r1 ++ [N2 (G1 4)]) dX6_comes_133 (by omega) ?_ (by rw [hG9]) (Nat.le_of_ble_eq_true rfl) (Nat.le_of_ble_eq_true rfl)
                refine ⟨?_, Or.inr ⟨rfl, ?_⟩⟩
                · have := hgo.2
                  rw [← e4, ← e5] at this
                  exact this
                · show rmn D1 N r.length r = (r1 ++ [N2 (G1 4)]) :: rmn D1 (st (st N2 (G1 4) (N2 (G1 4) + 1)) (st G1 4 (G1 4 + 1) 4) 0) (r1 ++ [N2 (G1 4)]).length (r1 ++ [N2 (G1 4)])
                  rw [e5, e4, ← hrm, hrg, if_pos (by rw [← e4]; omega)]
                  rfl
          · have hno : ¬ okC D1 r1 (N2 (G1 4)) = true := fun q => by rw [h66, if_pos (of_decide_eq_true q)] at c69; omega
            refine j_goto (tgt := 0) C dX6_comes_72 (by decide) ?_
            exact j_lle (lv' := [_, none]) ⟨Or.inr rfl, ⟨Or.inl rfl, trivial⟩⟩ (ih0 _ _ _ (r1) (by exact hG1) (by rw [e4]; exact IT_nx hIT (by rw [← e4]; omega)) (by rw [← hrm, e4, rmn_s (k := r1.length) (N := N2) (by rw [← e4]; omega) (by rw [← e4]; omega), if_neg (by rw [← e4]; exact hno)]; rfl) (by first | (rw [e5, e4, List.length_append, List.length_singleton]; have := msr_go (N := N2) (k := r1.length) (by omega) (by rw [← e4]; omega); omega) | (rw [e4]; have := msr_s (N := N2) (k := r1.length) (by rw [← e4]; omega); have : 0 < 9 ^ (8 - r1.length) := Nat.pow_pos (by omega); omega) | (have := msr_pop (N := N2) hne1 (by rw [← e4]; omega); omega)))
        · have hne1 : r1 ≠ [] := fun q => by rw [q] at e4; have e40 : G1 4 = 0 := e4; rw [e40] at c35; omega
          refine j_aload_n C dX6_comes_38 rfl ?_
          refine j_dup C dX6_comes_39 rfl ?_
          refine j_get C 0 0 12 rfl rfl rfl wU_X6 (by decide) wF_X6_86 rfl dX6_comes_40 ?_
          refine j_iconst C dX6_comes_43 ?_
          refine j_isub C dX6_comes_44 ?_
          refine j_put_p0 C 0 12 rfl mO_put4 rfl wU_X6 tyX6_ok nmX6 (by decide) wF_X6_86 rfl rfl rfl (Nat.le_of_ble_eq_true rfl) dX6_comes_45 ?_
          refine j_goto (tgt := 0) C dX6_comes_48 (by decide) ?_
          exact j_lle (lv' := [_, none]) ⟨Or.inr rfl, ⟨Or.inl rfl, trivial⟩⟩ (ih0 _ _ _ (r1.dropLast) (by rw [e4, hG1, st_st, List.length_dropLast]; congr 1; have := List.length_pos_iff.mpr hne1; omega) (by exact IT_pop hIT hne1) (by rw [← hrm]; exact rmn_pop hDZ hne1 hIT.2.1.2 (by omega) (by rw [← e4]; omega)) (by first | (rw [e5, e4, List.length_append, List.length_singleton]; have := msr_go (N := N2) (k := r1.length) (by omega) (by rw [← e4]; omega); omega) | (rw [e4]; have := msr_s (N := N2) (k := r1.length) (by rw [← e4]; omega); have : 0 < 9 ^ (8 - r1.length) := Nat.pow_pos (by omega); omega) | (have := msr_pop (N := N2) hne1 (by rw [← e4]; omega); omega)))
      refine j_if_gt (tgt := 20) C dX6_comes_4 (by decide) (by omega) (by omega) (fun c4 => ?_) (fun c4 => ?_)
      · exact L20 (by first | (left; omega) | (right; omega))
      · refine j_aload_n C dX6_comes_7 rfl ?_
        refine j_get C 0 0 11 rfl rfl rfl wU_X6 (by decide) wF_X6_31 rfl dX6_comes_8 ?_
        refine j_iconst C dX6_comes_11 ?_
        refine j_iald C 2 0 rfl rfl dX6_comes_12 (by decide) (by omega) (by omega) ?_
        refine j_aload_n C dX6_comes_13 rfl ?_
        refine j_get C 0 0 9 rfl rfl rfl wU_X6 (by decide) wF_X6_83 rfl dX6_comes_14 ?_
        refine j_icmp_ge (tgt := 137) C dX6_comes_17 (by decide) (by omega) (by omega) (by omega) (by omega) (fun c17 => ?_) (fun c17 => ?_)
        · refine j_iconst C dX6_comes_137 ?_
          have hr0 : r1 = [] := List.length_eq_zero_iff.mp (by omega)
          refine hR (R1, N2, []) dX6_comes_138 (by omega) ?_ (by rw [hG1, hr0]) (Nat.le_of_ble_eq_true rfl) (Nat.le_of_ble_eq_true rfl)
          refine ⟨by rw [← hr0]; exact hIT, Or.inl ⟨rfl, ?_, rfl⟩⟩
          rw [← hrm, hr0]
          exact rmn_end hDZ (by omega) (by omega)
        · exact L20 (by first | (left; omega) | (right; omega))
  exact L0 _ _ _ _ (r) (by funext j; unfold st; split; (rename_i c; rw [c, hG]); rfl) (by exact hI0) (by rfl) (Nat.lt_succ_self _)
