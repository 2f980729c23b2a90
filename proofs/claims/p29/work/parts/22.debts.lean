/-! the class of the debts -/
theorem ar1_ast {q n : Nat} {c : ClassId} {f g : Int → Int} : ([(q, aJ c n f)] : va_W).set 0 (q, aJ c n g) = [(q, aJ c n g)] := rfl
def dbO (d : Nat → Nat) : va_W := [(d 0, .inr (1, [.ref (d 1), .ref (d 2), .ref (d 3)]))]
/-- a chain of promises in the rows first and next -/
def isCh (nx : Int → Int) : Int → List Int → Prop
  | x, [] => x = -1
  | x, k :: t => x = k ∧ isCh nx (nx k) t
theorem isCh_st {nx : Int → Int} {k v : Int} : ∀ {l : List Int} {x : Int}, k ∉ l → isCh nx x l → isCh (st nx k v) x l
  | [], _, _, h => h
  | a :: t, x, hk, h => by
    refine ⟨h.1, ?_⟩
    rw [st_n (fun e => hk (by rw [← e]; exact List.mem_cons_self))]
    exact isCh_st (fun q => hk (List.mem_cons_of_mem _ q)) h.2
theorem isCh_cons {nx : Int → Int} {x : Int} {l : List Int} (h : isCh nx x l) (hx : x ≠ -1) : ∃ t, l = x :: t ∧ isCh nx (nx x) t := by
  match l, h with
  | [], h => exact absurd h hx
  | k :: t, h =>
    obtain ⟨rfl, h2⟩ := h
    exact ⟨t, rfl, h2⟩
theorem isCh_nil {nx : Int → Int} {l : List Int} (h : isCh nx (-1) l) (hm : ∀ k ∈ l, 0 ≤ k) : l = [] := by
  match l, h with
  | [], _ => rfl
  | k :: t, h =>
    have := hm k List.mem_cons_self
    have := h.1
    omega
theorem isCh_rng {nx : Int → Int} {x n : Int} {l : List Int} (h : isCh nx x l) (hm : ∀ k ∈ l, 0 ≤ k ∧ k < n) : x = -1 ∨ 0 ≤ x ∧ x < n := by
  by_cases q : x = -1
  · exact Or.inl q
  · obtain ⟨t, rfl, -⟩ := isCh_cons h q
    exact Or.inr (hm x List.mem_cons_self)
def DbL (S X F Nx : Int → Int) (L : Int → List Int) : Prop := ∀ q : Int, 0 ≤ q → q < 49 → X q = sumL (am S) (L q) ∧ isCh Nx (F q) (L q)
theorem DbL_put {S X F Nx : Int → Int} {L L' : Int → List Int} {k q0 : Int} (h : DbL S X F Nx L) (h0 : 0 ≤ q0) (h1 : q0 < 49) (hk : ∀ q, k ∉ L q) (hL : ∀ q, L' q = if q = q0 then k :: L q else L q) : DbL S (st X q0 (X q0 + am S k)) (st F q0 k) (st Nx k (F q0)) L' := by
  intro q a b
  have hq := h q a b
  rw [hL]
  by_cases e : q = q0
  · subst e
    rw [if_pos rfl, st_s, st_s]
    refine ⟨by rw [sumL, hq.1]; omega, rfl, ?_⟩
    rw [st_s]
    exact isCh_st (hk q) hq.2
  · rw [if_neg e, st_n e, st_n e]
    exact ⟨hq.1, isCh_st (hk q) hq.2⟩
/-- behind 'read' -/
def Db (S X F Nx : Int → Int) : Prop := DbL S X F Nx (fun q => chR S q 9)
theorem Db_sum {S X F Nx : Int → Int} (hI : Inv S) (h : Db S X F Nx) {q : Int} (h0 : 0 ≤ q) (h1 : q < 49) : X q = dQ S q := (h q h0 h1).1.trans (chR_sum hI q)
theorem ch_step {S : Int → Int} {q k r : Int} (hn : 0 ≤ S 1) (hk : 0 ≤ k) (hk1 : k < S 1) : lsN (cnd S q r) (S 1) ((S 1 - 1 - (k - 1)).toNat) = if cnd S q r k = true then k :: lsN (cnd S q r) (S 1) ((S 1 - 1 - k).toNat) else lsN (cnd S q r) (S 1) ((S 1 - 1 - k).toNat) := by
  rw [show (S 1 - 1 - (k - 1)).toNat = (S 1 - 1 - k).toNat + 1 by omega, lsN, show S 1 - (((S 1 - 1 - k).toNat : Nat) + 1 : Int) = k by omega]
theorem ch_nin {S : Int → Int} {q k : Int} {r : Int} (hr : 1 ≤ r) (hn : 0 ≤ S 1) (h0 : 0 ≤ k) (hk : k < S 1) (hra : ra S k = r) : k ∉ lsN (cnd S q r) (S 1) ((S 1 - 1 - k).toNat) ++ chR S q (r - 1).toNat := by
  intro h
  rcases List.mem_append.mp h with h | h
  · have := lsN_mem h
    omega
  · have := chR_mem h hn
    omega
theorem ch_next {S : Int → Int} {q r : Int} (hr : 1 ≤ r) : lsN (cnd S q r) (S 1) ((S 1 - 1 - (-1)).toNat) ++ chR S q (r - 1).toNat = chR S q (r + 1 - 1).toNat := by
  rw [show (r + 1 - 1).toNat = (r - 1).toNat + 1 by omega, chR, show (((r - 1).toNat : Nat) : Int) + 1 = r by omega, show S 1 - 1 - (-1) = S 1 by omega]
theorem DbL_congr {S X F Nx : Int → Int} {L L' : Int → List Int} (h : DbL S X F Nx L) (e : ∀ q : Int, 0 ≤ q → q < 49 → L' q = L q) : DbL S X F Nx L' := fun q a b => by rw [e q a b]; exact h q a b
/-- a release as the class does it, with the sum of releases -/
def relK (S : Int → Int) : List Int → Int → (Int → Int)
  | [], _ => S
  | k :: t, left => relK (relP S k (min left (am S k))) t (left - min left (am S k))
theorem relP_eq {S : Int → Int} {k : Int} (x : Int) (hk : 0 ≤ k) : relP S k x = st (rel1 S k x) 3 (S 3 + x) := by
  unfold relP rel1
  have e1 : re (st S (7 + 8 * k) (am S k - x)) k = re S k := st_n (by omega)
  have e2 : st (st S (7 + 8 * k) (am S k - x)) (12 + 8 * k) (re S k + x) 3 = S 3 := by rw [st_n (by omega), st_n (by omega)]
  rw [e1, e2]
theorem st_st (f : Int → Int) (i v w : Int) : st (st f i v) i w = st f i w := by
  funext j
  unfold st
  split <;> rfl
theorem st_sw (f : Int → Int) {i j : Int} (v w : Int) (h : i ≠ j) : st (st f i v) j w = st (st f j w) i v := by
  funext k
  unfold st
  by_cases a : k = j
  · rw [if_pos a, if_neg (by omega), if_pos a]
  · rw [if_neg a]
    by_cases b : k = i
    · rw [if_pos b, if_pos b]
    · rw [if_neg b, if_neg b, if_neg a]
theorem rel1_3 {S : Int → Int} {k : Int} (x v : Int) (hk : 0 ≤ k) : rel1 (st S 3 v) k x = st (rel1 S k x) 3 v := by
  unfold rel1
  have e1 : am (st S 3 v) k = am S k := st_n (by omega)
  have e2 : re (st S 3 v) k = re S k := st_n (by omega)
  rw [e1, e2, st_sw S v (am S k - x) (by omega : (3 : Int) ≠ 7 + 8 * k), st_sw _ v _ (by omega : (3 : Int) ≠ 12 + 8 * k)]
theorem relC_3 : ∀ (l : List Int) (S : Int → Int) (left v : Int), (∀ k ∈ l, 0 ≤ k) → relC (st S 3 v) l left = st (relC S l left) 3 v
  | [], _, _, _, _ => rfl
  | k :: t, S, left, v, h => by
    have hk := h k List.mem_cons_self
    have e1 : am (st S 3 v) k = am S k := st_n (by omega)
    rw [relC, relC, e1, rel1_3 _ _ hk, relC_3 t _ _ _ (fun x hx => h x (List.mem_cons_of_mem _ hx))]
theorem st_self (f : Int → Int) (i : Int) : st f i (f i) = f := by
  funext j
  unfold st
  by_cases a : j = i
  · rw [if_pos a, a]
  · rw [if_neg a]
theorem relK_eq : ∀ (l : List Int) (S : Int → Int) (left : Int), l.Nodup → 0 ≤ left → (∀ k ∈ l, 0 ≤ k ∧ 0 ≤ am S k) → relK S l left = st (relC S l left) 3 (S 3 + min left (sumL (am S) l))
  | [], S, left, _, h0, _ => by
    rw [relK, relC, sumL, show S 3 + min left 0 = S 3 by omega, st_self]
  | k :: t, S, left, hn, h0, h => by
    have hk := h k List.mem_cons_self
    have hkd := List.nodup_cons.mp hn
    have hs := sumL_nn (f := am S) (l := t) (fun x hx => (h x (List.mem_cons_of_mem _ hx)).2)
    have ea : ∀ i ∈ t, am (relP S k (min left (am S k))) i = am S i := fun i hi => by
      rw [relP_eq _ hk.1]
      have hi0 := (h i (List.mem_cons_of_mem _ hi)).1
      have : am (st (rel1 S k (min left (am S k))) 3 (S 3 + min left (am S k))) i = am (rel1 S k (min left (am S k))) i := st_n (by omega)
      rw [this, rel1_am, if_neg (fun (e : i = k) => hkd.1 (e ▸ hi))]
    rw [relK, relK_eq t _ _ hkd.2 (by omega) (fun x hx => ⟨(h x (List.mem_cons_of_mem _ hx)).1, by rw [ea x hx]; exact (h x (List.mem_cons_of_mem _ hx)).2⟩), sumL_congr ea, relP_eq _ hk.1, relC_3 t _ _ _ (fun x hx => (h x (List.mem_cons_of_mem _ hx)).1), st_st, st_s, relC, sumL]
    congr 1
    omega
theorem relK_0 : ∀ (l : List Int) (S : Int → Int), (∀ k ∈ l, 0 ≤ k ∧ 0 ≤ am S k) → relK S l 0 = S
  | [], _, _ => rfl
  | k :: t, S, h => by
    have hk := h k List.mem_cons_self
    have e : relP S k 0 = S := by rw [relP_eq _ hk.1, rel1_0, show S 3 + 0 = S 3 by omega, st_self]
    rw [relK, show min 0 (am S k) = 0 by omega, e, show (0 : Int) - 0 = 0 by omega]
    exact relK_0 t S (fun x hx => h x (List.mem_cons_of_mem _ hx))
theorem relP_o {S : Int → Int} {k x i : Int} (h : ∀ j : Int, i ≠ 7 + 8 * k ∧ i ≠ 12 + 8 * k ∧ i ≠ 3) : relP S k x i = S i := by
  unfold relP
  rw [st_n (h 0).2.2, st_n (h 0).2.1, st_n (h 0).1]
theorem relP_am {S : Int → Int} {k : Int} (x j : Int) (hk : 0 ≤ k) (hj : 0 ≤ j) : am (relP S k x) j = if j = k then am S k - x else am S j := by
  rw [relP_eq _ hk]
  have : am (st (rel1 S k x) 3 (S 3 + x)) j = am (rel1 S k x) j := st_n (by omega)
  rw [this, rel1_am]
theorem Inv_am {S T : Int → Int} (hI : Inv S) (hL : T 0 = S 0 ∧ T 1 = S 1) (hk : ∀ k : Int, 0 ≤ k → fr T k = fr S k ∧ tO T k = tO S k ∧ ra T k = ra S k ∧ di T k = di S k) (h : ∀ j : Int, 0 ≤ j → j < S 1 → 0 ≤ am T j ∧ am T j ≤ am S j) : Inv T := by
  refine ⟨by rw [hL.1]; exact hI.1, by rw [hL.2]; exact hI.2.1, fun k h0 h1 => ?_⟩
  rw [hL.2] at h1
  have f := hI.2.2 k h0 h1
  have g := hk k h0
  have a := h k h0 h1
  rw [g.1, g.2.1, g.2.2.1, g.2.2.2, hL.1]
  exact ⟨f.1, f.2.1, f.2.2.1, ⟨a.1, by omega⟩, f.2.2.2.2.1, f.2.2.2.2.2⟩
theorem relP_Inv {S : Int → Int} {k x : Int} (hI : Inv S) (hk : 0 ≤ k) (h0 : 0 ≤ x) (h1 : x ≤ am S k) : Inv (relP S k x) := by
  refine Inv_am hI ⟨relP_o (fun _ => by omega), relP_o (fun _ => by omega)⟩ (fun j hj => ⟨relP_o (fun _ => by omega), relP_o (fun _ => by omega), relP_o (fun _ => by omega), relP_o (fun _ => by omega)⟩) (fun j hj hj1 => ?_)
  have f := hI.2.2 j hj hj1
  rw [relP_am _ _ hk hj]
  split
  · rename_i e
    subst e
    omega
  · omega
theorem pm_4 (B0 B1 B2 B3 : va_W) : [B0, B1, B2, B3].Perm ([] ++ [B0, B1, B2, B3]) := List.Perm.refl _
theorem pr_4 (B0 B1 B2 B3 : va_W) : ([] ++ [B0, B1, B2, B3]).Perm [B0, B1, B2, B3] := (pm_4 B0 B1 B2 B3).symm
theorem pm_4_3_2_1_0 (B0 B1 B2 B3 : va_W) : [B0, B1, B2, B3].Perm ([B3, B2, B1, B0] ++ []) := List.Perm.trans (List.perm_middle (l₁ := [B0, B1, B2]) (a := B3) (l₂ := [])) (List.Perm.trans (List.Perm.cons _ (List.perm_middle (l₁ := [B0, B1]) (a := B2) (l₂ := []))) (List.Perm.trans (List.Perm.cons _ (List.Perm.cons _ (List.perm_middle (l₁ := [B0]) (a := B1) (l₂ := [])))) (List.Perm.cons _ (List.Perm.cons _ (List.Perm.cons _ (List.Perm.refl _))))))
theorem pr_4_3_2_1_0 (B0 B1 B2 B3 : va_W) : ([B3, B2, B1, B0] ++ []).Perm [B0, B1, B2, B3] := (pm_4_3_2_1_0 B0 B1 B2 B3).symm
theorem pm_5 (B0 B1 B2 B3 B4 : va_W) : [B0, B1, B2, B3, B4].Perm ([] ++ [B0, B1, B2, B3, B4]) := List.Perm.refl _
theorem pr_5 (B0 B1 B2 B3 B4 : va_W) : ([] ++ [B0, B1, B2, B3, B4]).Perm [B0, B1, B2, B3, B4] := (pm_5 B0 B1 B2 B3 B4).symm
theorem pm_5_0_1_2_3 (B0 B1 B2 B3 B4 : va_W) : [B0, B1, B2, B3, B4].Perm ([B0, B1, B2, B3] ++ [B4]) := List.Perm.trans (List.Perm.refl _) (List.Perm.trans (List.Perm.cons _ (List.Perm.refl _)) (List.Perm.trans (List.Perm.cons _ (List.Perm.cons _ (List.Perm.refl _))) (List.Perm.cons _ (List.Perm.cons _ (List.Perm.cons _ (List.Perm.refl _))))))
theorem pr_5_0_1_2_3 (B0 B1 B2 B3 B4 : va_W) : ([B0, B1, B2, B3] ++ [B4]).Perm [B0, B1, B2, B3, B4] := (pm_5_0_1_2_3 B0 B1 B2 B3 B4).symm
theorem pm_5_4 (B0 B1 B2 B3 B4 : va_W) : [B0, B1, B2, B3, B4].Perm ([B4] ++ [B0, B1, B2, B3]) := List.perm_middle (l₁ := [B0, B1, B2, B3]) (a := B4) (l₂ := [])
theorem pr_5_4 (B0 B1 B2 B3 B4 : va_W) : ([B4] ++ [B0, B1, B2, B3]).Perm [B0, B1, B2, B3, B4] := (pm_5_4 B0 B1 B2 B3 B4).symm
set_option maxHeartbeats 4000000 in
set_option maxRecDepth 100000 in
theorem c_X1_init (l : Launch) (D : va_G) (cA : Nat → ClassId) (q : Nat)  : MV (U := Nat → Nat) l yX1_init cX1_init 1 none (rmN 1 3 138) D cA [.ref (q)] [[(q, .inr (1, [.null, .null, .null]))]] (fun d => d 0 = q) (fun d => [dbO d, [(d 1, aJ (cA 0) 49 (fun _ => 0))], [(d 2, aJ (cA 0) 49 (fun _ => 0))], [(d 3, aJ (cA 0) 40 (fun _ => 0))]]) := by
  refine m_startV pn_X1 rfl (List.forall_mem_cons.mpr ⟨rfl, fun _ h => absurd h List.not_mem_nil⟩) (Nat.le_of_ble_eq_true rfl) ?_
  intro K C e1 e2 e3 hin hR
  subst e1 e2 e3
  show J K 0 0 [[(q, .inr (1, [.null, .null, .null]))]] [some (.ref (q))] 0 []
  refine j_aload_n C dX1_init_0 rfl ?_
  refine j_objInit C rfl wL_X1_3 dX1_init_1 ⟨by decide, Nat.le_of_ble_eq_true rfl⟩ ?_
  refine j_aload_n C dX1_init_4 rfl ?_
  refine j_bipush C dX1_init_5 (by decide) ?_
  refine j_newi C 49 (by decide) (by decide) wA__int (by decide) dX1_init_7 (fun q1 => ?_)
  refine j_putF_p1 C hin 0 0 (B' := [(q, .inr (1, [.ref q1, .null, .null]))]) rfl rfl rfl wU_X1 tyX1_ok nmX1 (by decide) wF_X1_9 rfl rfl rfl rfl (Nat.le_of_ble_eq_true rfl) dX1_init_9 ?_
  refine j_aload_n C dX1_init_12 rfl ?_
  refine j_bipush C dX1_init_13 (by decide) ?_
  refine j_newi C 49 (by decide) (by decide) wA__int (by decide) dX1_init_15 (fun q2 => ?_)
  refine j_putF_p2 C hin 0 1 (B' := [(q, .inr (1, [.ref q1, .ref q2, .null]))]) rfl rfl rfl wU_X1 tyX1_ok nmX1 (by decide) wF_X1_15 rfl rfl rfl rfl (Nat.le_of_ble_eq_true rfl) dX1_init_17 ?_
  refine j_aload_n C dX1_init_20 rfl ?_
  refine j_bipush C dX1_init_21 (by decide) ?_
  refine j_newi C 40 (by decide) (by decide) wA__int (by decide) dX1_init_23 (fun q3 => ?_)
  refine j_putF_p3 C hin 0 2 (B' := [(q, .inr (1, [.ref q1, .ref q2, .ref q3]))]) rfl rfl rfl wU_X1 tyX1_ok nmX1 (by decide) wF_X1_18 rfl rfl rfl rfl (Nat.le_of_ble_eq_true rfl) dX1_init_25 ?_
  refine j_perm (pm_4_3_2_1_0 _ _ _ _) ?_
  exact hR (ad9 q q1 q2 q3 0 0 0 0 0) dX1_init_28 (by rfl) rfl (Nat.le_of_ble_eq_true rfl) (Nat.le_of_ble_eq_true rfl)
set_option maxHeartbeats 4000000 in
set_option maxRecDepth 100000 in
theorem c_X1_putFirst (l : Launch) (D : va_G) (cA : Nat → ClassId) (d : Nat → Nat) (X F Nx : Int → Int) (p k a : Int) (hp : 0 ≤ p ∧ p < 49) (hk : 0 ≤ k ∧ k < 40) : MV (U := Unit) l yX1_putFirst cX1_putFirst 4 none (rmN 2 0 0) D cA [.ref (d 0), .int (iI p), .int (iI k), .int (iI a)] [dbO d, [(d 1, aJ (cA 0) 49 X)], [(d 2, aJ (cA 0) 49 F)], [(d 3, aJ (cA 0) 40 Nx)]] (fun _ => True) (fun _ => [dbO d, [(d 1, aJ (cA 0) 49 (st X p (X p + a)))], [(d 2, aJ (cA 0) 49 (st F p k))], [(d 3, aJ (cA 0) 40 (st Nx k (F p)))]]) := by
  refine m_startV pn_X1 rfl (List.forall_mem_cons.mpr ⟨rfl, List.forall_mem_cons.mpr ⟨rfl, List.forall_mem_cons.mpr ⟨rfl, List.forall_mem_cons.mpr ⟨rfl, fun _ h => absurd h List.not_mem_nil⟩⟩⟩⟩) (Nat.le_of_ble_eq_true rfl) ?_
  intro K C e1 e2 e3 hin hR
  subst e1 e2 e3
  show J K 0 0 [dbO d, [(d 1, aJ ((kC K) 0) 49 X)], [(d 2, aJ ((kC K) 0) 49 F)], [(d 3, aJ ((kC K) 0) 40 Nx)]] [some (.ref (d 0)), some (.int (iI p)), some (.int (iI k)), some (.int (iI a))] 0 []
  refine j_iload_n C dX1_putFirst_0 rfl ?_
  refine j_perm (pm_4 _ _ _ _) ?_
  refine j_callSNi C (As := [.int (iI _)]) (c_X5_isPair _ _ _ _ (by first | assumption | omega)) 1 nf_X5_isPair.2 wLN_X1_45 wS_X5_isPair wIn_X5 wC_X5_isPair rfl rfl (by decide) dX1_putFirst_1 (Nat.le_of_ble_eq_true rfl) ⟨Nat.le_of_ble_eq_true rfl, Nat.le_of_ble_eq_true rfl⟩ (fun x1 u1 h1 => ?_)
  refine j_perm (pr_4 _ _ _ _) ?_
  refine j_if_eq (tgt := 43) C dX1_putFirst_4 (by decide) (by omega) (by omega) (fun c4 => ?_) (fun c4 => ?_)
  · exact absurd c4 (by rw [h1, if_pos (by omega)]; decide)
  · refine j_iload_n C dX1_putFirst_7 rfl ?_
    refine j_perm (pm_4 _ _ _ _) ?_
    refine j_callSNi C (As := [.int (iI _)]) (c_X5_isSlot _ _ _ _ (by first | assumption | omega)) 1 nf_X5_isSlot.2 wLN_X1_48 wS_X5_isSlot wIn_X5 wC_X5_isSlot rfl rfl (by decide) dX1_putFirst_8 (Nat.le_of_ble_eq_true rfl) ⟨Nat.le_of_ble_eq_true rfl, Nat.le_of_ble_eq_true rfl⟩ (fun x8 u8 h8 => ?_)
    refine j_perm (pr_4 _ _ _ _) ?_
    refine j_if_eq (tgt := 43) C dX1_putFirst_11 (by decide) (by omega) (by omega) (fun c11 => ?_) (fun c11 => ?_)
    · exact absurd c11 (by rw [h8, if_pos (by omega)]; decide)
    · refine j_aload_n C dX1_putFirst_14 rfl ?_
      refine j_get C 0 0 0 rfl rfl rfl wU_X1 (by decide) wF_X1_9 rfl dX1_putFirst_15 ?_
      refine j_iload_n C dX1_putFirst_18 rfl ?_
      refine j_dup2 C dX1_putFirst_19 rfl rfl ?_
      refine j_iald C 1 0 rfl rfl dX1_putFirst_20 (by decide) (by omega) (by omega) ?_
      refine j_iload_n C dX1_putFirst_21 rfl ?_
      refine j_iadd C dX1_putFirst_22 ?_
      refine j_iast_p1 C 0 rfl ar1_ast dX1_putFirst_23 (by decide) (by omega) (by omega) ?_
      refine j_aload_n C dX1_putFirst_24 rfl ?_
      refine j_get C 0 0 2 rfl rfl rfl wU_X1 (by decide) wF_X1_18 rfl dX1_putFirst_25 ?_
      refine j_iload_n C dX1_putFirst_28 rfl ?_
      refine j_aload_n C dX1_putFirst_29 rfl ?_
      refine j_get C 0 0 1 rfl rfl rfl wU_X1 (by decide) wF_X1_15 rfl dX1_putFirst_30 ?_
      refine j_iload_n C dX1_putFirst_33 rfl ?_
      refine j_iald C 2 0 rfl rfl dX1_putFirst_34 (by decide) (by omega) (by omega) ?_
      refine j_iast_p3 C 0 rfl ar1_ast dX1_putFirst_35 (by decide) (by omega) (by omega) ?_
      refine j_aload_n C dX1_putFirst_36 rfl ?_
      refine j_get C 0 0 1 rfl rfl rfl wU_X1 (by decide) wF_X1_15 rfl dX1_putFirst_37 ?_
      refine j_iload_n C dX1_putFirst_40 rfl ?_
      refine j_iload_n C dX1_putFirst_41 rfl ?_
      refine j_iast_p2 C 0 rfl ar1_ast dX1_putFirst_42 (by decide) (by omega) (by omega) ?_
      exact hR () dX1_putFirst_43 (by first | trivial | omega | rfl) rfl (Nat.le_of_ble_eq_true rfl) (Nat.le_of_ble_eq_true rfl)
set_option maxHeartbeats 4000000 in
set_option maxRecDepth 100000 in
theorem c_X1_sumOf (l : Launch) (D : va_G) (cA : Nat → ClassId) (d : Nat → Nat) (X F Nx : Int → Int) (p : Int) (hp : -2147483648 ≤ p ∧ p < 2147483648) : MI (U := Unit) l yX1_sumOf cX1_sumOf 2 (some .int) (rmN 2 0 0) D cA [.ref (d 0), .int (iI p)] [dbO d, [(d 1, aJ (cA 0) 49 X)], [(d 2, aJ (cA 0) 49 F)], [(d 3, aJ (cA 0) 40 Nx)]] (fun x _ => x = if 0 ≤ p ∧ p < 49 then X p else 0) (fun _ => [dbO d, [(d 1, aJ (cA 0) 49 X)], [(d 2, aJ (cA 0) 49 F)], [(d 3, aJ (cA 0) 40 Nx)]]) := by
  refine m_startI pn_X1 rfl (List.forall_mem_cons.mpr ⟨rfl, List.forall_mem_cons.mpr ⟨rfl, fun _ h => absurd h List.not_mem_nil⟩⟩) (Nat.le_of_ble_eq_true rfl) ?_
  intro K C e1 e2 e3 hin hR
  subst e1 e2 e3
  show J K 0 0 [dbO d, [(d 1, aJ ((kC K) 0) 49 X)], [(d 2, aJ ((kC K) 0) 49 F)], [(d 3, aJ ((kC K) 0) 40 Nx)]] [some (.ref (d 0)), some (.int (iI p))] 0 []
  refine j_iload_n C dX1_sumOf_0 rfl ?_
  refine j_perm (pm_4 _ _ _ _) ?_
  refine j_callSNi C (As := [.int (iI _)]) (c_X5_isPair _ _ _ _ (by first | assumption | omega)) 1 nf_X5_isPair.2 wLN_X1_45 wS_X5_isPair wIn_X5 wC_X5_isPair rfl rfl (by decide) dX1_sumOf_1 (Nat.le_of_ble_eq_true rfl) ⟨Nat.le_of_ble_eq_true rfl, Nat.le_of_ble_eq_true rfl⟩ (fun x1 u1 h1 => ?_)
  refine j_perm (pr_4 _ _ _ _) ?_
  refine j_if_eq (tgt := 16) C dX1_sumOf_4 (by decide) (by omega) (by omega) (fun c4 => ?_) (fun c4 => ?_)
  · refine j_iconst C dX1_sumOf_16 ?_
    exact hR () dX1_sumOf_17 (by first | (rw [if_pos (by omega)]) | (rw [if_neg (by omega)])) rfl (Nat.le_of_ble_eq_true rfl) (Nat.le_of_ble_eq_true rfl)
  · refine j_aload_n C dX1_sumOf_7 rfl ?_
    refine j_get C 0 0 0 rfl rfl rfl wU_X1 (by decide) wF_X1_9 rfl dX1_sumOf_8 ?_
    refine j_iload_n C dX1_sumOf_11 rfl ?_
    refine j_iald C 1 0 rfl rfl dX1_sumOf_12 (by decide) (by omega) (by omega) ?_
    refine j_goto (tgt := 17) C dX1_sumOf_13 (by decide) ?_
    exact hR () dX1_sumOf_17 (by first | (rw [if_pos (by omega)]) | (rw [if_neg (by omega)])) rfl (Nat.le_of_ble_eq_true rfl) (Nat.le_of_ble_eq_true rfl)
set_option maxHeartbeats 4000000 in
set_option maxRecDepth 100000 in
theorem c_X1_read (l : Launch) (D : va_G) (cA : Nat → ClassId) (d : Nat → Nat) (X F Nx : Int → Int) (b : Nat → Nat) (S : Int → Int) (hI : Inv S) : MV (U := (Int → Int) × (Int → Int) × (Int → Int)) l yX1_read cX1_read 4 none (rmN 3 0 0) D cA [.ref (d 0), .ref (b 0)] [dbO d, [(d 1, aJ (cA 0) 49 X)], [(d 2, aJ (cA 0) 49 F)], [(d 3, aJ (cA 0) 40 Nx)], bk cA b S] (fun u => Db S u.1 u.2.1 u.2.2) (fun u => [dbO d, [(d 1, aJ (cA 0) 49 u.1)], [(d 2, aJ (cA 0) 49 u.2.1)], [(d 3, aJ (cA 0) 40 u.2.2)], bk cA b S]) := by
  refine m_startV pn_X1 rfl (List.forall_mem_cons.mpr ⟨rfl, List.forall_mem_cons.mpr ⟨rfl, fun _ h => absurd h List.not_mem_nil⟩⟩) (Nat.le_of_ble_eq_true rfl) ?_
  intro K C e1 e2 e3 hin hR
  subst e1 e2 e3
  have hN := hI.2.1
  have hP := hI.1
  show J K 0 0 [dbO d, [(d 1, aJ ((kC K) 0) 49 X)], [(d 2, aJ ((kC K) 0) 49 F)], [(d 3, aJ ((kC K) 0) 40 Nx)], bk (kC K) b S] [some (.ref (d 0)), some (.ref (b 0)), none, none] 0 []
  refine j_iconst C dX1_read_0 ?_
  refine j_istn_2 C dX1_read_1 rfl ?_
  have L2 : ∀ (fuel : Nat) (i : Int) (X1 F1 : Int → Int) (hi : 0 ≤ i ∧ i ≤ 49) (hX : ∀ q : Int, 0 ≤ q → q < i → X1 q = 0 ∧ F1 q = -1) (hf2 : (49 - i).toNat < fuel), J K 0 0 [dbO d, [(d 1, aJ ((kC K) 0) 49 X1)], [(d 2, aJ ((kC K) 0) 49 F1)], [(d 3, aJ ((kC K) 0) 40 Nx)], bk (kC K) b S] [some (.ref (d 0)), some (.ref (b 0)), some (.int (iI i)), none] 2 [] := by
    intro fuel
    induction fuel with
    | zero => intro i X1 F1 hi hX hf2; exact absurd hf2 (Nat.not_lt_zero _)
    | succ fuel ih2 =>
      intro i X1 F1 hi hX hf2
      refine j_iload_n C dX1_read_2 rfl ?_
      refine j_bipush C dX1_read_3 (by decide) ?_
      refine j_icmp_ge (tgt := 28) C dX1_read_5 (by decide) (by omega) (by omega) (by omega) (by omega) (fun c5 => ?_) (fun c5 => ?_)
      · refine j_iconst C dX1_read_28 ?_
        refine j_istn_2 C dX1_read_29 rfl ?_
        have L30 : ∀ (fuel : Nat) (r : Int) (X2 F2 N2 : Int → Int) (hr : 1 ≤ r ∧ r ≤ 10) (h2 : DbL S X2 F2 N2 (fun q => chR S q (r - 1).toNat)) (hf30 : (10 - r).toNat < fuel), J K 0 0 [dbO d, [(d 1, aJ ((kC K) 0) 49 X2)], [(d 2, aJ ((kC K) 0) 49 F2)], [(d 3, aJ ((kC K) 0) 40 N2)], bk (kC K) b S] [some (.ref (d 0)), some (.ref (b 0)), some (.int (iI r)), none] 30 [] := by
          intro fuel
          induction fuel with
          | zero => intro r X2 F2 N2 hr h2 hf30; exact absurd hf30 (Nat.not_lt_zero _)
          | succ fuel ih30 =>
            intro r X2 F2 N2 hr h2 hf30
            refine j_iload_n C dX1_read_30 rfl ?_
            refine j_bipush C dX1_read_31 (by decide) ?_
            refine j_icmp_gt (tgt := 93) C dX1_read_33 (by decide) (by omega) (by omega) (by omega) (by omega) (fun c33 => ?_) (fun c33 => ?_)
            · exact hR (X2, F2, N2) dX1_read_93 (by rw [show r = 10 by omega] at h2; exact h2) rfl (Nat.le_of_ble_eq_true rfl) (Nat.le_of_ble_eq_true rfl)
            · refine j_aload_n C dX1_read_36 rfl ?_
              refine j_getN C 4 0 1 rfl rfl rfl wU_X0 (by decide) wFN_X1_21 rfl dX1_read_37 ?_
              refine j_iconst C dX1_read_40 ?_
              refine j_isub C dX1_read_41 ?_
              refine j_istn_3 C dX1_read_42 rfl ?_
              have L43 : ∀ (fuel : Nat) (i : Int) (X3 F3 N3 : Int → Int) (hi : -1 ≤ i ∧ i < S 1) (h3 : DbL S X3 F3 N3 (fun q => lsN (cnd S q r) (S 1) ((S 1 - 1 - i).toNat) ++ chR S q (r - 1).toNat)) (hf43 : (i + 1).toNat < fuel), J K 0 0 [dbO d, [(d 1, aJ ((kC K) 0) 49 X3)], [(d 2, aJ ((kC K) 0) 49 F3)], [(d 3, aJ ((kC K) 0) 40 N3)], bk (kC K) b S] [some (.ref (d 0)), some (.ref (b 0)), some (.int (iI r)), some (.int (iI i))] 43 [] := by
                intro fuel
                induction fuel with
                | zero => intro i X3 F3 N3 hi h3 hf43; exact absurd hf43 (Nat.not_lt_zero _)
                | succ fuel ih43 =>
                  intro i X3 F3 N3 hi h3 hf43
                  refine j_iload_n C dX1_read_43 rfl ?_
                  refine j_if_lt (tgt := 87) C dX1_read_44 (by decide) (by omega) (by omega) (fun c44 => ?_) (fun c44 => ?_)
                  · refine j_iinc_2 C dX1_read_87 rfl ?_
                    refine j_goto (tgt := 30) C dX1_read_90 (by decide) ?_
                    exact j_lle (lv' := [_, _, _, none]) ⟨Or.inr rfl, ⟨Or.inr rfl, ⟨Or.inr rfl, ⟨Or.inl rfl, trivial⟩⟩⟩⟩ (ih30 _ _ _ _ (by omega) (by rw [show i = -1 by omega] at h3; refine DbL_congr h3 (fun q _ _ => ?_); exact (ch_next hr.1).symm) (by omega))
                  · have hi0 : 0 ≤ i := by omega
                    have f := hI.2.2 i hi0 hi.2
                    refine j_aload_n C dX1_read_47 rfl ?_
                    refine j_getN C 4 0 8 rfl rfl rfl wU_X0 (by decide) wFN_X1_27 rfl dX1_read_48 ?_
                    refine j_iload_n C dX1_read_51 rfl ?_
                    refine j_iald C 4 4 rfl rfl dX1_read_52 (by decide) (by omega) (by omega) ?_
                    refine j_iload_n C dX1_read_53 rfl ?_
                    refine j_icmp_ne (tgt := 81) C dX1_read_54 (by decide) (by omega) (by omega) (by omega) (by omega) (fun c54 => ?_) (fun c54 => ?_)
                    · refine j_iinc_3 C dX1_read_81 rfl ?_
                      refine j_goto (tgt := 43) C dX1_read_84 (by decide) ?_
                      exact ih43 _ _ _ _ (by omega) (by first | (refine DbL_congr (DbL_put (k := i) h3 hq49.1 hq49.2 (fun q => ch_nin hr.1 hN.1 hi0 hi.2 hra) (fun q => rfl)) (fun q _ _ => ?_); rw [show i + -1 = i - 1 by omega, ch_step hN.1 hi0 hi.2]; by_cases e : q = fr S i * 7 + tO S i; (rw [if_pos e, if_pos (by unfold cnd; rw [decide_eq_true_eq]; omega)]; rfl); (rw [if_neg e, if_neg (by unfold cnd; rw [decide_eq_true_eq]; omega)])) | (refine DbL_congr h3 (fun q _ _ => ?_); rw [show i + -1 = i - 1 by omega, ch_step hN.1 hi0 hi.2, if_neg (by unfold cnd; rw [decide_eq_true_eq]; omega)])) (by omega)
                    · refine j_aload_n C dX1_read_57 rfl ?_
                      refine j_iload_n C dX1_read_58 rfl ?_
                      refine j_perm (pm_5_4 _ _ _ _ _) ?_
                      refine j_callVi C (As := [.int (iI _)]) (c_X0_isOwing _ _ _ _ _ _ (by first | assumption | omega) (by first | assumption | omega)) 1 nf_X0_isOwing (jb := 0) rfl rfl wL_X1_30 wI_X0_isOwing wSe_X0_X0_isOwing wIn_X0 wC_X0_isOwing rfl rfl (by decide) dX1_read_59 (Nat.le_of_ble_eq_true rfl) ⟨Nat.le_of_ble_eq_true rfl, Nat.le_of_ble_eq_true rfl⟩ (fun x59 u59 h59 => ?_)
                      refine j_perm (pr_5_4 _ _ _ _ _) ?_
                      refine j_if_eq (tgt := 81) C dX1_read_62 (by decide) (by omega) (by omega) (fun c62 => ?_) (fun c62 => ?_)
                      · refine j_iinc_3 C dX1_read_81 rfl ?_
                        refine j_goto (tgt := 43) C dX1_read_84 (by decide) ?_
                        exact ih43 _ _ _ _ (by omega) (by first | (refine DbL_congr (DbL_put (k := i) h3 hq49.1 hq49.2 (fun q => ch_nin hr.1 hN.1 hi0 hi.2 hra) (fun q => rfl)) (fun q _ _ => ?_); rw [show i + -1 = i - 1 by omega, ch_step hN.1 hi0 hi.2]; by_cases e : q = fr S i * 7 + tO S i; (rw [if_pos e, if_pos (by unfold cnd; rw [decide_eq_true_eq]; omega)]; rfl); (rw [if_neg e, if_neg (by unfold cnd; rw [decide_eq_true_eq]; omega)])) | (refine DbL_congr h3 (fun q _ _ => ?_); rw [show i + -1 = i - 1 by omega, ch_step hN.1 hi0 hi.2, if_neg (by unfold cnd; rw [decide_eq_true_eq]; omega)])) (by omega)
                      · have hra : ra S i = r := by omega
                        have hq49 : 0 ≤ fr S i * 7 + tO S i ∧ fr S i * 7 + tO S i < 49 := by omega
                        subst h59
                        have how : 0 < am S i ∧ di S i = 0 := by split at c62 <;> omega
                        refine j_aload_n C dX1_read_65 rfl ?_
                        refine j_aload_n C dX1_read_66 rfl ?_
                        refine j_iload_n C dX1_read_67 rfl ?_
                        refine j_perm (pm_5_4 _ _ _ _ _) ?_
                        refine j_callVi C (As := [.int (iI _)]) (c_X0_pairOf _ _ _ _ _ _ (by first | assumption | omega) (by first | assumption | omega)) 1 nf_X0_pairOf (jb := 0) rfl rfl wL_X1_34 wI_X0_pairOf wSe_X0_X0_pairOf wIn_X0 wC_X0_pairOf rfl rfl (by decide) dX1_read_68 (Nat.le_of_ble_eq_true rfl) ⟨Nat.le_of_ble_eq_true rfl, Nat.le_of_ble_eq_true rfl⟩ (fun x68 u68 h68 => ?_)
                        refine j_perm (pr_5_4 _ _ _ _ _) ?_
                        subst h68
                        refine j_iload_n C dX1_read_71 rfl ?_
                        refine j_aload_n C dX1_read_72 rfl ?_
                        refine j_getN C 4 0 7 rfl rfl rfl wU_X0 (by decide) wFN_X1_38 rfl dX1_read_73 ?_
                        refine j_iload_n C dX1_read_76 rfl ?_
                        refine j_iald C 4 3 rfl rfl dX1_read_77 (by decide) (by omega) (by omega) ?_
                        refine j_perm (pm_5_0_1_2_3 _ _ _ _ _) ?_
                        refine j_callVv C (As := [.int (iI _), .int (iI _), .int (iI _)]) (c_X1_putFirst _ _ _ _ _ _ _ _ _ _ (by first | assumption | omega) (by first | assumption | omega)) 3 nf_X1_putFirst (jb := 0) rfl rfl wL_X1_41 wI_X1_putFirst wSe_X1_X1_putFirst wIn_X1 wC_X1_putFirst rfl rfl (by decide) dX1_read_78 (Nat.le_of_ble_eq_true rfl) ⟨Nat.le_of_ble_eq_true rfl, Nat.le_of_ble_eq_true rfl⟩ (fun u78 h78 => ?_)
                        refine j_perm (pr_5_0_1_2_3 _ _ _ _ _) ?_
                        refine j_iinc_3 C dX1_read_81 rfl ?_
                        refine j_goto (tgt := 43) C dX1_read_84 (by decide) ?_
                        exact ih43 _ _ _ _ (by omega) (by first | (refine DbL_congr (DbL_put (k := i) h3 hq49.1 hq49.2 (fun q => ch_nin hr.1 hN.1 hi0 hi.2 hra) (fun q => rfl)) (fun q _ _ => ?_); rw [show i + -1 = i - 1 by omega, ch_step hN.1 hi0 hi.2]; by_cases e : q = fr S i * 7 + tO S i; (rw [if_pos e, if_pos (by unfold cnd; rw [decide_eq_true_eq]; omega)]; rfl); (rw [if_neg e, if_neg (by unfold cnd; rw [decide_eq_true_eq]; omega)])) | (refine DbL_congr h3 (fun q _ _ => ?_); rw [show i + -1 = i - 1 by omega, ch_step hN.1 hi0 hi.2, if_neg (by unfold cnd; rw [decide_eq_true_eq]; omega)])) (by omega)
              exact L43 _ _ _ _ _ (by omega) (by refine DbL_congr h2 (fun q _ _ => ?_); rw [show (S 1 - 1 - (S 1 - 1)).toNat = 0 by omega]; rfl) (Nat.lt_succ_self _)
        exact L30 _ _ _ _ _ (by omega) (by intro q a b; have := hX q a (by omega); exact ⟨this.1, this.2⟩) (Nat.lt_succ_self _)
      · refine j_aload_n C dX1_read_8 rfl ?_
        refine j_get C 0 0 0 rfl rfl rfl wU_X1 (by decide) wF_X1_9 rfl dX1_read_9 ?_
        refine j_iload_n C dX1_read_12 rfl ?_
        refine j_iconst C dX1_read_13 ?_
        refine j_iast_p1 C 0 rfl ar1_ast dX1_read_14 (by decide) (by omega) (by omega) ?_
        refine j_aload_n C dX1_read_15 rfl ?_
        refine j_get C 0 0 1 rfl rfl rfl wU_X1 (by decide) wF_X1_15 rfl dX1_read_16 ?_
        refine j_iload_n C dX1_read_19 rfl ?_
        refine j_iconst C dX1_read_20 ?_
        refine j_iast_p2 C 0 rfl ar1_ast dX1_read_21 (by decide) (by omega) (by omega) ?_
        refine j_iinc_2 C dX1_read_22 rfl ?_
        refine j_goto (tgt := 2) C dX1_read_25 (by decide) ?_
        exact ih2 _ _ _ (by omega) (by intro q a b; by_cases e : q = i; (subst e; exact ⟨st_s _ _ _, st_s _ _ _⟩); (rw [st_n e, st_n e]; exact hX q a (by omega))) (by omega)
  exact L2 _ _ _ _ (by omega) (by intro q a b; omega) (Nat.lt_succ_self _)
set_option maxHeartbeats 4000000 in
set_option maxRecDepth 100000 in
theorem c_X1_costOfPart (l : Launch) (D : va_G) (cA : Nat → ClassId) (d : Nat → Nat) (X F Nx : Int → Int) (b : Nat → Nat) (S : Int → Int) (p part : Int) (hI : Inv S) (hD : Db S X F Nx) (hp : -1 ≤ p ∧ p < 49) (hpa : 0 ≤ part ∧ part ≤ 40000) : MI (U := Unit) l yX1_costOfPart cX1_costOfPart 9 (some .int) (rmN 3 0 0) D cA [.ref (d 0), .ref (b 0), .int (iI p), .int (iI part)] [dbO d, [(d 1, aJ (cA 0) 49 X)], [(d 2, aJ (cA 0) 49 F)], [(d 3, aJ (cA 0) 40 Nx)], bk cA b S] (fun x _ => x = (if 0 ≤ p then cQ S p part else 0)) (fun _ => [dbO d, [(d 1, aJ (cA 0) 49 X)], [(d 2, aJ (cA 0) 49 F)], [(d 3, aJ (cA 0) 40 Nx)], bk cA b S]) := by
  refine m_startI pn_X1 rfl (List.forall_mem_cons.mpr ⟨rfl, List.forall_mem_cons.mpr ⟨rfl, List.forall_mem_cons.mpr ⟨rfl, List.forall_mem_cons.mpr ⟨rfl, fun _ h => absurd h List.not_mem_nil⟩⟩⟩⟩) (Nat.le_of_ble_eq_true rfl) ?_
  intro K C e1 e2 e3 hin hR
  subst e1 e2 e3
  have hN := hI.2.1
  have hlen := chR_len hI p
  show J K 0 0 [dbO d, [(d 1, aJ ((kC K) 0) 49 X)], [(d 2, aJ ((kC K) 0) 49 F)], [(d 3, aJ ((kC K) 0) 40 Nx)], bk (kC K) b S] [some (.ref (d 0)), some (.ref (b 0)), some (.int (iI p)), some (.int (iI part)), none, none, none, none, none] 0 []
  refine j_iconst C dX1_costOfPart_0 ?_
  refine j_ist_4 C dX1_costOfPart_1 rfl ?_
  refine j_iload_n C dX1_costOfPart_3 rfl ?_
  refine j_ist_5 C dX1_costOfPart_4 rfl ?_
  refine j_iload_n C dX1_costOfPart_6 rfl ?_
  refine j_perm (pm_5 _ _ _ _ _) ?_
  refine j_callSNi C (As := [.int (iI _)]) (c_X5_isPair _ _ _ _ (by first | assumption | omega)) 1 nf_X5_isPair.2 wLN_X1_45 wS_X5_isPair wIn_X5 wC_X5_isPair rfl rfl (by decide) dX1_costOfPart_7 (Nat.le_of_ble_eq_true rfl) ⟨Nat.le_of_ble_eq_true rfl, Nat.le_of_ble_eq_true rfl⟩ (fun x7 u7 h7 => ?_)
  refine j_perm (pr_5 _ _ _ _ _) ?_
  have L23 : ∀ (z : Int) (l0 : List Int) (hz : isCh Nx z l0) (hl0 : l0 = if 0 ≤ p then chR S p 9 else []), J K 0 0 [dbO d, [(d 1, aJ ((kC K) 0) 49 X)], [(d 2, aJ ((kC K) 0) 49 F)], [(d 3, aJ ((kC K) 0) 40 Nx)], bk (kC K) b S] [some (.ref (d 0)), some (.ref (b 0)), some (.int (iI p)), some (.int (iI part)), some (.int (iI 0)), some (.int (iI part)), none, none, none] 23 [.int (iI z)] := by
    intro z l0 hz hl0
    have hc0 : 0 + gcL (am S) (ra S) l0 part = (if 0 ≤ p then cQ S p part else 0) := by
      rw [hl0]
      by_cases q : 0 ≤ p
      · rw [if_pos q, if_pos q, gcL_chR hI p 9 part hpa.1]; unfold cQ; omega
      · rw [if_neg q, if_neg q]; rfl
    have hch0 : isCh Nx z l0 := hz
    have hln : (l0.length : Int) ≤ 40 := by rw [hl0]; split; (omega); (show (0 : Int) ≤ 40; omega)
    have hm00 : ∀ k ∈ l0, 0 ≤ k ∧ k < S 1 ∧ 0 < am S k := by
      intro k hk
      rw [hl0] at hk
      split at hk
      · have := chR_mem hk hN.1
        exact ⟨this.2.1, this.2.2.1, this.1.2.1⟩
      · exact absurd hk List.not_mem_nil
    refine j_ist_6 C dX1_costOfPart_23 rfl ?_
    refine j_iconst C dX1_costOfPart_25 ?_
    refine j_ist_7 C dX1_costOfPart_26 rfl ?_
    have L28 : ∀ (fuel : Nat) (cost left i n : Int) (l : List Int) (hc : cost + gcL (am S) (ra S) l left = (if 0 ≤ p then cQ S p part else 0)) (hch : isCh Nx i l) (hle : 0 ≤ left ∧ left ≤ 40000) (hn : 0 ≤ n ∧ n + (l.length : Int) ≤ 40) (hm0 : ∀ k ∈ l, 0 ≤ k ∧ k < S 1 ∧ 0 < am S k) (hf28 : (40 - n).toNat < fuel), J K 0 0 [dbO d, [(d 1, aJ ((kC K) 0) 49 X)], [(d 2, aJ ((kC K) 0) 49 F)], [(d 3, aJ ((kC K) 0) 40 Nx)], bk (kC K) b S] [some (.ref (d 0)), some (.ref (b 0)), some (.int (iI p)), some (.int (iI part)), some (.int (iI cost)), some (.int (iI left)), some (.int (iI i)), some (.int (iI n)), none] 28 [] := by
      intro fuel
      induction fuel with
      | zero => intro cost left i n l hc hch hle hn hm0 hf28; exact absurd hf28 (Nat.not_lt_zero _)
      | succ fuel ih28 =>
        intro cost left i n l hc hch hle hn hm0 hf28
        refine j_iload C dX1_costOfPart_28 rfl ?_
        refine j_bipush C dX1_costOfPart_30 (by decide) ?_
        refine j_icmp_ge (tgt := 99) C dX1_costOfPart_32 (by decide) (by omega) (by omega) (by omega) (by omega) (fun c32 => ?_) (fun c32 => ?_)
        · refine j_iload C dX1_costOfPart_99 rfl ?_
          exact hR () dX1_costOfPart_101 (by first | (have e : l = [] := List.length_eq_zero_iff.mp (by omega); show cost = _; rw [← hc, e]; exact (Int.add_zero cost).symm) | (show cost = _; rw [← hc, show left = 0 by omega, gcL_0 l (fun k hk => by have := hm0 k hk; omega)]; omega) | (have e : l = [] := (by (by_cases q : i = -1; (subst q; exact isCh_nil hch (fun k hk => (hm0 k hk).1)); (obtain ⟨t, hl, -⟩ := isCh_cons hch q; have := hm0 i (by rw [hl]; exact List.mem_cons_self); subst h42; exfalso; split at c45 <;> omega))); show cost = _; rw [← hc, e]; exact (Int.add_zero cost).symm)) rfl (Nat.le_of_ble_eq_true rfl) (Nat.le_of_ble_eq_true rfl)
        · refine j_iload C dX1_costOfPart_35 rfl ?_
          refine j_if_le (tgt := 99) C dX1_costOfPart_37 (by decide) (by omega) (by omega) (fun c37 => ?_) (fun c37 => ?_)
          · refine j_iload C dX1_costOfPart_99 rfl ?_
            exact hR () dX1_costOfPart_101 (by first | (have e : l = [] := List.length_eq_zero_iff.mp (by omega); show cost = _; rw [← hc, e]; exact (Int.add_zero cost).symm) | (show cost = _; rw [← hc, show left = 0 by omega, gcL_0 l (fun k hk => by have := hm0 k hk; omega)]; omega) | (have e : l = [] := (by (by_cases q : i = -1; (subst q; exact isCh_nil hch (fun k hk => (hm0 k hk).1)); (obtain ⟨t, hl, -⟩ := isCh_cons hch q; have := hm0 i (by rw [hl]; exact List.mem_cons_self); subst h42; exfalso; split at c45 <;> omega))); show cost = _; rw [← hc, e]; exact (Int.add_zero cost).symm)) rfl (Nat.le_of_ble_eq_true rfl) (Nat.le_of_ble_eq_true rfl)
          · have hir := isCh_rng (n := 40) hch (fun k hk => by have := hm0 k hk; omega)
            refine j_iload C dX1_costOfPart_40 rfl ?_
            refine j_perm (pm_5 _ _ _ _ _) ?_
            refine j_callSNi C (As := [.int (iI _)]) (c_X5_isSlot _ _ _ _ (by first | assumption | omega)) 1 nf_X5_isSlot.2 wLN_X1_48 wS_X5_isSlot wIn_X5 wC_X5_isSlot rfl rfl (by decide) dX1_costOfPart_42 (Nat.le_of_ble_eq_true rfl) ⟨Nat.le_of_ble_eq_true rfl, Nat.le_of_ble_eq_true rfl⟩ (fun x42 u42 h42 => ?_)
            refine j_perm (pr_5 _ _ _ _ _) ?_
            refine j_if_eq (tgt := 99) C dX1_costOfPart_45 (by decide) (by omega) (by omega) (fun c45 => ?_) (fun c45 => ?_)
            · refine j_iload C dX1_costOfPart_99 rfl ?_
              exact hR () dX1_costOfPart_101 (by first | (have e : l = [] := List.length_eq_zero_iff.mp (by omega); show cost = _; rw [← hc, e]; exact (Int.add_zero cost).symm) | (show cost = _; rw [← hc, show left = 0 by omega, gcL_0 l (fun k hk => by have := hm0 k hk; omega)]; omega) | (have e : l = [] := (by (by_cases q : i = -1; (subst q; exact isCh_nil hch (fun k hk => (hm0 k hk).1)); (obtain ⟨t, hl, -⟩ := isCh_cons hch q; have := hm0 i (by rw [hl]; exact List.mem_cons_self); subst h42; exfalso; split at c45 <;> omega))); show cost = _; rw [← hc, e]; exact (Int.add_zero cost).symm)) rfl (Nat.le_of_ble_eq_true rfl) (Nat.le_of_ble_eq_true rfl)
            · subst h42
              have his : 0 ≤ i ∧ i < 40 := by split at c45 <;> omega
              obtain ⟨t, hl, hch2⟩ := isCh_cons hch (by omega)
              have hmi := hm0 i (by rw [hl]; exact List.mem_cons_self)
              have f := hI.2.2 i hmi.1 hmi.2.1
              refine j_iload C dX1_costOfPart_48 rfl ?_
              refine j_aload_n C dX1_costOfPart_50 rfl ?_
              refine j_getN C 4 0 7 rfl rfl rfl wU_X0 (by decide) wFN_X1_38 rfl dX1_costOfPart_51 ?_
              refine j_iload C dX1_costOfPart_54 rfl ?_
              refine j_iald C 4 3 rfl rfl dX1_costOfPart_56 (by decide) (by omega) (by omega) ?_
              refine j_mmin C rfl wL_X1_51 wS_J9_min_7cf53 wIn_J9 wC_J9_min_7cf53 ⟨by decide, Nat.le_of_ble_eq_true rfl, by decide, by decide⟩ dX1_costOfPart_57 (by omega) (by omega) (by omega) (by omega) (fun z57 hz57 => ?_)
              refine j_ist_8 C dX1_costOfPart_60 rfl ?_
              have hm : min left (am S i) = z57 := by omega
              refine j_iload C dX1_costOfPart_62 rfl ?_
              refine j_iload C dX1_costOfPart_64 rfl ?_
              refine j_aload_n C dX1_costOfPart_66 rfl ?_
              refine j_getN C 4 0 8 rfl rfl rfl wU_X0 (by decide) wFN_X1_27 rfl dX1_costOfPart_67 ?_
              refine j_iload C dX1_costOfPart_70 rfl ?_
              refine j_iald C 4 4 rfl rfl dX1_costOfPart_72 (by decide) (by omega) (by omega) ?_
              refine j_imul C dX1_costOfPart_73 ?_
              refine j_iadd C dX1_costOfPart_74 ?_
              refine j_ist_4 C dX1_costOfPart_75 rfl ?_
              refine j_iload C dX1_costOfPart_77 rfl ?_
              refine j_iload C dX1_costOfPart_79 rfl ?_
              refine j_isub C dX1_costOfPart_81 ?_
              refine j_ist_5 C dX1_costOfPart_82 rfl ?_
              refine j_aload_n C dX1_costOfPart_84 rfl ?_
              refine j_get C 0 0 2 rfl rfl rfl wU_X1 (by decide) wF_X1_18 rfl dX1_costOfPart_85 ?_
              refine j_iload C dX1_costOfPart_88 rfl ?_
              refine j_iald C 3 0 rfl rfl dX1_costOfPart_90 (by decide) (by omega) (by omega) ?_
              refine j_ist_6 C dX1_costOfPart_91 rfl ?_
              refine j_iinc_7 C dX1_costOfPart_93 rfl ?_
              refine j_goto (tgt := 28) C dX1_costOfPart_96 (by decide) ?_
              exact j_lle (lv' := [_, _, _, _, _, _, _, _, none]) ⟨Or.inr rfl, ⟨Or.inr rfl, ⟨Or.inr rfl, ⟨Or.inr rfl, ⟨Or.inr rfl, ⟨Or.inr rfl, ⟨Or.inr rfl, ⟨Or.inr rfl, ⟨Or.inl rfl, trivial⟩⟩⟩⟩⟩⟩⟩⟩⟩ (ih28 _ _ _ _ (t) (by rw [← hc, hl, gcL, hm]; omega) (by exact hch2) (by omega) (by rw [hl, List.length_cons] at hn; omega) (by exact fun k hk => hm0 k (by rw [hl]; exact List.mem_cons_of_mem _ hk)) (by omega))
    exact L28 _ _ _ _ _ (l0) (by exact hc0) (by exact hch0) (by omega) (by refine ⟨by omega, ?_⟩; omega) (by exact hm00) (Nat.lt_succ_self _)
  subst h7
  refine j_if_eq (tgt := 22) C dX1_costOfPart_10 (by decide) (by omega) (by omega) (fun c10 => ?_) (fun c10 => ?_)
  · refine j_iconst C dX1_costOfPart_22 ?_
    exact L23 _ (if 0 ≤ p then chR S p 9 else []) (by first | (rw [if_pos (by omega)]; exact (hD p (by omega) (by omega)).2) | (rw [if_neg (by omega)]; rfl)) (by rfl)
  · refine j_aload_n C dX1_costOfPart_13 rfl ?_
    refine j_get C 0 0 1 rfl rfl rfl wU_X1 (by decide) wF_X1_15 rfl dX1_costOfPart_14 ?_
    refine j_iload_n C dX1_costOfPart_17 rfl ?_
    refine j_iald C 2 0 rfl rfl dX1_costOfPart_18 (by decide) (by omega) (by omega) ?_
    refine j_goto (tgt := 23) C dX1_costOfPart_19 (by decide) ?_
    exact L23 _ (if 0 ≤ p then chR S p 9 else []) (by first | (rw [if_pos (by omega)]; exact (hD p (by omega) (by omega)).2) | (rw [if_neg (by omega)]; rfl)) (by rfl)
set_option maxHeartbeats 4000000 in
set_option maxRecDepth 100000 in
theorem c_X1_releaseFrom (l : Launch) (D : va_G) (cA : Nat → ClassId) (d : Nat → Nat) (X F Nx : Int → Int) (b : Nat → Nat) (T : Int → Int) (p part : Int) (hI : Inv T) (hD : 0 ≤ p → isCh Nx (F p) (chR T p 9)) (hp : -1 ≤ p ∧ p < 49) (hpa : 0 ≤ part ∧ part ≤ 40000) : MV (U := Unit) l yX1_releaseFrom cX1_releaseFrom 8 none (rmN 3 0 0) D cA [.ref (d 0), .ref (b 0), .int (iI p), .int (iI part)] [dbO d, [(d 1, aJ (cA 0) 49 X)], [(d 2, aJ (cA 0) 49 F)], [(d 3, aJ (cA 0) 40 Nx)], bk cA b T] (fun _ => True) (fun _ => [dbO d, [(d 1, aJ (cA 0) 49 X)], [(d 2, aJ (cA 0) 49 F)], [(d 3, aJ (cA 0) 40 Nx)], bk cA b (if 0 ≤ p then relK T (chR T p 9) part else T)]) := by
  refine m_startV pn_X1 rfl (List.forall_mem_cons.mpr ⟨rfl, List.forall_mem_cons.mpr ⟨rfl, List.forall_mem_cons.mpr ⟨rfl, List.forall_mem_cons.mpr ⟨rfl, fun _ h => absurd h List.not_mem_nil⟩⟩⟩⟩) (Nat.le_of_ble_eq_true rfl) ?_
  intro K C e1 e2 e3 hin hR
  subst e1 e2 e3
  have hN := hI.2.1
  have hlen := chR_len hI p
  show J K 0 0 [dbO d, [(d 1, aJ ((kC K) 0) 49 X)], [(d 2, aJ ((kC K) 0) 49 F)], [(d 3, aJ ((kC K) 0) 40 Nx)], bk (kC K) b T] [some (.ref (d 0)), some (.ref (b 0)), some (.int (iI p)), some (.int (iI part)), none, none, none, none] 0 []
  refine j_iload_n C dX1_releaseFrom_0 rfl ?_
  refine j_ist_4 C dX1_releaseFrom_1 rfl ?_
  refine j_iload_n C dX1_releaseFrom_3 rfl ?_
  refine j_perm (pm_5 _ _ _ _ _) ?_
  refine j_callSNi C (As := [.int (iI _)]) (c_X5_isPair _ _ _ _ (by first | assumption | omega)) 1 nf_X5_isPair.2 wLN_X1_45 wS_X5_isPair wIn_X5 wC_X5_isPair rfl rfl (by decide) dX1_releaseFrom_4 (Nat.le_of_ble_eq_true rfl) ⟨Nat.le_of_ble_eq_true rfl, Nat.le_of_ble_eq_true rfl⟩ (fun x4 u4 h4 => ?_)
  refine j_perm (pr_5 _ _ _ _ _) ?_
  have L20 : ∀ (z : Int) (l0 : List Int) (hz : isCh Nx z l0) (hl0 : l0 = if 0 ≤ p then chR T p 9 else []), J K 0 0 [dbO d, [(d 1, aJ ((kC K) 0) 49 X)], [(d 2, aJ ((kC K) 0) 49 F)], [(d 3, aJ ((kC K) 0) 40 Nx)], bk (kC K) b T] [some (.ref (d 0)), some (.ref (b 0)), some (.int (iI p)), some (.int (iI part)), some (.int (iI part)), none, none, none] 20 [.int (iI z)] := by
    intro z l0 hz hl0
    have hch0 : isCh Nx z l0 := hz
    have hln : (l0.length : Int) ≤ 40 := by rw [hl0]; split; (omega); (show (0 : Int) ≤ 40; omega)
    have hnd0 : l0.Nodup := by
      rw [hl0]
      split
      · exact chR_nd hN.1 9
      · exact List.nodup_nil
    have hm00 : ∀ k ∈ l0, 0 ≤ k ∧ k < T 1 ∧ 0 < am T k := by
      intro k hk
      rw [hl0] at hk
      split at hk
      · have := chR_mem hk hN.1
        exact ⟨this.2.1, this.2.2.1, this.1.2.1⟩
      · exact absurd hk List.not_mem_nil
    refine j_ist_5 C dX1_releaseFrom_20 rfl ?_
    refine j_iconst C dX1_releaseFrom_22 ?_
    refine j_ist_6 C dX1_releaseFrom_23 rfl ?_
    have L25 : ∀ (fuel : Nat) (left i n : Int) (l : List Int) (U : Int → Int) (hc : relK U l left = relK T l0 part) (hch : isCh Nx i l) (hle : 0 ≤ left ∧ left ≤ 40000) (hn : 0 ≤ n ∧ n + (l.length : Int) ≤ 40) (hnd : l.Nodup) (hU : Inv U ∧ U 1 = T 1) (hm0 : ∀ k ∈ l, 0 ≤ k ∧ k < T 1 ∧ 0 < am U k) (hf25 : (40 - n).toNat < fuel), J K 0 0 [dbO d, [(d 1, aJ ((kC K) 0) 49 X)], [(d 2, aJ ((kC K) 0) 49 F)], [(d 3, aJ ((kC K) 0) 40 Nx)], bk (kC K) b U] [some (.ref (d 0)), some (.ref (b 0)), some (.int (iI p)), some (.int (iI part)), some (.int (iI left)), some (.int (iI i)), some (.int (iI n)), none] 25 [] := by
      intro fuel
      induction fuel with
      | zero => intro left i n l U hc hch hle hn hnd hU hm0 hf25; exact absurd hf25 (Nat.not_lt_zero _)
      | succ fuel ih25 =>
        intro left i n l U hc hch hle hn hnd hU hm0 hf25
        refine j_iload C dX1_releaseFrom_25 rfl ?_
        refine j_bipush C dX1_releaseFrom_27 (by decide) ?_
        refine j_icmp_ge (tgt := 89) C dX1_releaseFrom_29 (by decide) (by omega) (by omega) (by omega) (by omega) (fun c29 => ?_) (fun c29 => ?_)
        · have e : U = if 0 ≤ p then relK T (chR T p 9) part else T := by
            have e2 : relK U l left = U := by
              first | (have e : l = [] := List.length_eq_zero_iff.mp (by omega); rw [e]; rfl) | (rw [show left = 0 by omega]; exact relK_0 l U (fun k hk => by have := hm0 k hk; omega)) | (have e : l = [] := (by (by_cases q : i = -1; (subst q; exact isCh_nil hch (fun k hk => (hm0 k hk).1)); (obtain ⟨t, hl, -⟩ := isCh_cons hch q; have := hm0 i (by rw [hl]; exact List.mem_cons_self); subst h39; exfalso; split at c42 <;> omega))); rw [e]; rfl)
            rw [← e2, hc, hl0]
            split
            · rfl
            · rfl
          subst e
          exact hR () dX1_releaseFrom_89 (by trivial) rfl (Nat.le_of_ble_eq_true rfl) (Nat.le_of_ble_eq_true rfl)
        · refine j_iload C dX1_releaseFrom_32 rfl ?_
          refine j_if_le (tgt := 89) C dX1_releaseFrom_34 (by decide) (by omega) (by omega) (fun c34 => ?_) (fun c34 => ?_)
          · have e : U = if 0 ≤ p then relK T (chR T p 9) part else T := by
              have e2 : relK U l left = U := by
                first | (have e : l = [] := List.length_eq_zero_iff.mp (by omega); rw [e]; rfl) | (rw [show left = 0 by omega]; exact relK_0 l U (fun k hk => by have := hm0 k hk; omega)) | (have e : l = [] := (by (by_cases q : i = -1; (subst q; exact isCh_nil hch (fun k hk => (hm0 k hk).1)); (obtain ⟨t, hl, -⟩ := isCh_cons hch q; have := hm0 i (by rw [hl]; exact List.mem_cons_self); subst h39; exfalso; split at c42 <;> omega))); rw [e]; rfl)
              rw [← e2, hc, hl0]
              split
              · rfl
              · rfl
            subst e
            exact hR () dX1_releaseFrom_89 (by trivial) rfl (Nat.le_of_ble_eq_true rfl) (Nat.le_of_ble_eq_true rfl)
          · have hir := isCh_rng (n := 40) hch (fun k hk => by have := hm0 k hk; omega)
            refine j_iload C dX1_releaseFrom_37 rfl ?_
            refine j_perm (pm_5 _ _ _ _ _) ?_
            refine j_callSNi C (As := [.int (iI _)]) (c_X5_isSlot _ _ _ _ (by first | assumption | omega)) 1 nf_X5_isSlot.2 wLN_X1_48 wS_X5_isSlot wIn_X5 wC_X5_isSlot rfl rfl (by decide) dX1_releaseFrom_39 (Nat.le_of_ble_eq_true rfl) ⟨Nat.le_of_ble_eq_true rfl, Nat.le_of_ble_eq_true rfl⟩ (fun x39 u39 h39 => ?_)
            refine j_perm (pr_5 _ _ _ _ _) ?_
            refine j_if_eq (tgt := 89) C dX1_releaseFrom_42 (by decide) (by omega) (by omega) (fun c42 => ?_) (fun c42 => ?_)
            · have e : U = if 0 ≤ p then relK T (chR T p 9) part else T := by
                have e2 : relK U l left = U := by
                  first | (have e : l = [] := List.length_eq_zero_iff.mp (by omega); rw [e]; rfl) | (rw [show left = 0 by omega]; exact relK_0 l U (fun k hk => by have := hm0 k hk; omega)) | (have e : l = [] := (by (by_cases q : i = -1; (subst q; exact isCh_nil hch (fun k hk => (hm0 k hk).1)); (obtain ⟨t, hl, -⟩ := isCh_cons hch q; have := hm0 i (by rw [hl]; exact List.mem_cons_self); subst h39; exfalso; split at c42 <;> omega))); rw [e]; rfl)
                rw [← e2, hc, hl0]
                split
                · rfl
                · rfl
              subst e
              exact hR () dX1_releaseFrom_89 (by trivial) rfl (Nat.le_of_ble_eq_true rfl) (Nat.le_of_ble_eq_true rfl)
            · subst h39
              have his : 0 ≤ i ∧ i < 40 := by split at c42 <;> omega
              obtain ⟨t, hl, hch2⟩ := isCh_cons hch (by omega)
              have hmi := hm0 i (by rw [hl]; exact List.mem_cons_self)
              have hU1 := hU.1.2.1
              have hU2 := hU.2
              have f := hU.1.2.2 i hmi.1 (by omega)
              have hnd2 := List.nodup_cons.mp (hl ▸ hnd)
              refine j_iload C dX1_releaseFrom_45 rfl ?_
              refine j_aload_n C dX1_releaseFrom_47 rfl ?_
              refine j_getN C 4 0 7 rfl rfl rfl wU_X0 (by decide) wFN_X1_38 rfl dX1_releaseFrom_48 ?_
              refine j_iload C dX1_releaseFrom_51 rfl ?_
              refine j_iald C 4 3 rfl rfl dX1_releaseFrom_53 (by decide) (by omega) (by omega) ?_
              refine j_mmin C rfl wL_X1_51 wS_J9_min_7cf53 wIn_J9 wC_J9_min_7cf53 ⟨by decide, Nat.le_of_ble_eq_true rfl, by decide, by decide⟩ dX1_releaseFrom_54 (by omega) (by omega) (by omega) (by omega) (fun z54 hz54 => ?_)
              refine j_ist_7 C dX1_releaseFrom_57 rfl ?_
              have hm : min left (am U i) = z54 := by omega
              refine j_aload_n C dX1_releaseFrom_59 rfl ?_
              refine j_iload C dX1_releaseFrom_60 rfl ?_
              refine j_iload C dX1_releaseFrom_62 rfl ?_
              refine j_perm (pm_5_4 _ _ _ _ _) ?_
              refine j_callVv C (As := [.int (iI _), .int (iI _)]) (c_X0_releasePart _ _ _ _ _ _ _ (by first | assumption | omega) (by first | assumption | omega)) 2 nf_X0_releasePart (jb := 0) rfl rfl wL_X1_57 wI_X0_releasePart wSe_X0_X0_releasePart wIn_X0 wC_X0_releasePart rfl rfl (by decide) dX1_releaseFrom_64 (Nat.le_of_ble_eq_true rfl) ⟨Nat.le_of_ble_eq_true rfl, Nat.le_of_ble_eq_true rfl⟩ (fun u64 h64 => ?_)
              refine j_perm (pr_5_4 _ _ _ _ _) ?_
              refine j_iload C dX1_releaseFrom_67 rfl ?_
              refine j_iload C dX1_releaseFrom_69 rfl ?_
              refine j_isub C dX1_releaseFrom_71 ?_
              refine j_ist_4 C dX1_releaseFrom_72 rfl ?_
              refine j_aload_n C dX1_releaseFrom_74 rfl ?_
              refine j_get C 0 0 2 rfl rfl rfl wU_X1 (by decide) wF_X1_18 rfl dX1_releaseFrom_75 ?_
              refine j_iload C dX1_releaseFrom_78 rfl ?_
              refine j_iald C 3 0 rfl rfl dX1_releaseFrom_80 (by decide) (by omega) (by omega) ?_
              refine j_ist_5 C dX1_releaseFrom_81 rfl ?_
              refine j_iinc_6 C dX1_releaseFrom_83 rfl ?_
              refine j_goto (tgt := 25) C dX1_releaseFrom_86 (by decide) ?_
              exact j_lle (lv' := [_, _, _, _, _, _, _, none]) ⟨Or.inr rfl, ⟨Or.inr rfl, ⟨Or.inr rfl, ⟨Or.inr rfl, ⟨Or.inr rfl, ⟨Or.inr rfl, ⟨Or.inr rfl, ⟨Or.inl rfl, trivial⟩⟩⟩⟩⟩⟩⟩⟩ (ih25 _ _ _ (t) _ (by rw [← hc, hl, relK, hm]) (by exact hch2) (by omega) (by rw [hl, List.length_cons] at hn; omega) (by exact hnd2.2) (by exact ⟨relP_Inv hU.1 hmi.1 (by omega) (by omega), (relP_o (fun _ => by omega)).trans hU.2⟩) (by exact fun k hk => by have a := hm0 k (by rw [hl]; exact List.mem_cons_of_mem _ hk); rw [relP_am _ _ hmi.1 a.1, if_neg (fun e => hnd2.1 (by rw [← e]; exact hk))]; exact a) (by omega))
    exact L25 _ _ _ _ (l0) _ (by rw [hl0]) (by exact hch0) (by omega) (by refine ⟨by omega, ?_⟩; omega) (by exact hnd0) (by exact ⟨hI, rfl⟩) (by exact hm00) (Nat.lt_succ_self _)
  subst h4
  refine j_if_eq (tgt := 19) C dX1_releaseFrom_7 (by decide) (by omega) (by omega) (fun c7 => ?_) (fun c7 => ?_)
  · refine j_iconst C dX1_releaseFrom_19 ?_
    exact L20 _ (if 0 ≤ p then chR T p 9 else []) (by first | (rw [if_pos (by omega)]; exact hD (by omega)) | (rw [if_neg (by omega)]; rfl)) (by rfl)
  · refine j_aload_n C dX1_releaseFrom_10 rfl ?_
    refine j_get C 0 0 1 rfl rfl rfl wU_X1 (by decide) wF_X1_15 rfl dX1_releaseFrom_11 ?_
    refine j_iload_n C dX1_releaseFrom_14 rfl ?_
    refine j_iald C 2 0 rfl rfl dX1_releaseFrom_15 (by decide) (by omega) (by omega) ?_
    refine j_goto (tgt := 20) C dX1_releaseFrom_16 (by decide) ?_
    exact L20 _ (if 0 ≤ p then chR T p 9 else []) (by first | (rw [if_pos (by omega)]; exact hD (by omega)) | (rw [if_neg (by omega)]; rfl)) (by rfl)
