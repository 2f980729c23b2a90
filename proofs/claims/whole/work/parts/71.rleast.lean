/-! the reference: the least cost -/
/-- the state of the class and that of the reference: the same as far as there are promises, 0 behind -/
def Ag (S M : Int → Int) : Prop := (∀ j : Int, 0 ≤ j → j < 5 + 8 * S 1 → M j = S j) ∧ ∀ j : Int, 5 + 8 * S 1 ≤ j → j < 325 → M j = 0
theorem Ag_h {S M : Int → Int} (h : Ag S M) (hN : 0 ≤ S 1) : M 0 = S 0 ∧ M 1 = S 1 ∧ M 2 = S 2 ∧ M 3 = S 3 ∧ M 4 = S 4 := ⟨h.1 0 (by omega) (by omega), h.1 1 (by omega) (by omega), h.1 2 (by omega) (by omega), h.1 3 (by omega) (by omega), h.1 4 (by omega) (by omega)⟩
theorem Ag_c {S M : Int → Int} (h : Ag S M) {k : Int} (k0 : 0 ≤ k) (k1 : k < S 1) : M (5 + 8 * k + 0) = fr S k ∧ M (5 + 8 * k + 1) = tO S k ∧ M (5 + 8 * k + 2) = am S k ∧ M (5 + 8 * k + 3) = ra S k ∧ M (5 + 8 * k + 4) = di S k := by
  refine ⟨?_, ?_, ?_, ?_, ?_⟩
  · rw [h.1 _ (by omega) (by omega), (cel (S := S) k).1]
  · rw [h.1 _ (by omega) (by omega), (cel (S := S) k).2.1]
  · rw [h.1 _ (by omega) (by omega), (cel (S := S) k).2.2.1]
  · rw [h.1 _ (by omega) (by omega), (cel (S := S) k).2.2.2.1]
  · rw [h.1 _ (by omega) (by omega), (cel (S := S) k).2.2.2.2.1]
def fD (z : Int) : Int := if z = FAR then -1 else z
/-- the reference's distances, and the ways by which they are reached -/
def RF (s : (Int → Int) × (Int → Int)) (F B : Int → Int) : Prop := ∀ p : Int, 0 ≤ p → p < 7 → F p = fD (s.1 p) ∧ B p = s.2 p
theorem fD_ini (e : Int → Int) (i : Int) : fD ((ini e).1 i) = if 0 < e i then 0 else -1 := by
  show fD (if 0 < e i then 0 else FAR) = _
  split <;> rfl
theorem fD_FAR {z : Int} : fD z = -1 ↔ z = FAR ∨ z = -1 := by
  unfold fD FAR
  split <;> omega
theorem rnd_one {S x : Int → Int} {s : (Int → Int) × (Int → Int)} {i : Int} (h0 : 0 ≤ i) (hx : 0 ≤ x i ∧ x i ≤ am S i) : rndN S x (i + 1).toNat s = if di S i = 0 then shr2 S x i (shr1 S x i (rndN S x i.toNat s)) else rndN S x i.toNat s := by
  rw [show (i + 1).toNat = i.toNat + 1 by omega, rndN, show ((i.toNat : Nat) : Int) = i by omega]
  by_cases c : di S i = 0
  · rw [if_pos c]
    by_cases a : 0 < am S i
    · rw [if_pos ⟨c, a⟩]
    · rw [if_neg (fun q => a q.2)]
      unfold shr2 shr1
      rw [if_neg (by omega), if_neg (by omega)]
  · rw [if_neg c, if_neg (fun q => c q.1)]
theorem rch_Bd {a b c w : Int} {s : (Int → Int) × (Int → Int)} {F B : Int → Int} (h : RF s F B) (hs : Bd s) (ha : 0 ≤ a ∧ a < 7) (hb : 0 ≤ b ∧ b < 7) : (F a = -1 ∨ (0 ≤ F a ∧ F a ≤ 54 ∧ F a = s.1 a)) ∧ (F b = -1 ∨ (0 ≤ F b ∧ F b ≤ 54 ∧ F b = s.1 b)) ∧ (F a = -1 ↔ s.1 a = FAR) ∧ (F b = -1 ↔ s.1 b = FAR) := by
  have h1 := (h a ha.1 ha.2).1
  have h2 := (h b hb.1 hb.2).1
  have h3 := hs a ha.1 ha.2
  have h4 := hs b hb.1 hb.2
  unfold fD at h1 h2
  have e : FAR = 1000000 := rfl
  split at h1 <;> split at h2 <;> omega
theorem RF_up {a b c w : Int} {s : (Int → Int) × (Int → Int)} {F B : Int → Int} (h : RF s F B) (hs : Bd s) (ha : 0 ≤ a ∧ a < 7) (hb : 0 ≤ b ∧ b < 7) (hc : -9 ≤ c ∧ c ≤ 9) (h1 : F a ≠ -1) (h2 : F b = -1 ∨ F a + c < F b) : RF (rch a b c w s) (st F b (F a + c)) (st B b w) := by
  have f := rch_Bd (c := c) (w := w) h hs ha hb
  have e : FAR = 1000000 := rfl
  have e1 : rch a b c w s = (st s.1 b (s.1 a + c), st s.2 b w) := if_pos (by omega)
  rw [e1]
  intro p p0 p1
  by_cases z : p = b
  · rw [z]
    dsimp only
    rw [st_s, st_s, st_s, st_s]
    refine ⟨?_, rfl⟩
    unfold fD
    rw [if_neg (by omega)]
    omega
  · dsimp only
    rw [st_n z, st_n z, st_n z, st_n z]
    exact h p p0 p1
theorem RF_no {a b c w : Int} {s : (Int → Int) × (Int → Int)} {F B : Int → Int} (h : RF s F B) (hs : Bd s) (ha : 0 ≤ a ∧ a < 7) (hb : 0 ≤ b ∧ b < 7) (h1 : F a = -1 ∨ (F b ≠ -1 ∧ F b ≤ F a + c)) : RF (rch a b c w s) F B := by
  have f := rch_Bd (c := c) (w := w) h hs ha hb
  have e1 : rch a b c w s = s := if_neg (by omega)
  rw [e1]
  exact h
def NG7 (L e : Int → Int) : Prop := ∀ p : Int, 0 ≤ p → p < 7 → L p = -e p
theorem nr_s (D e : Int → Int) {k : Int} (h : 0 ≤ k) : nrN D e (k + 1).toNat = if e k < 0 ∧ D k < (nrN D e k.toNat).2 then (k, D k) else nrN D e k.toNat := by
  rw [show (k + 1).toNat = k.toNat + 1 by omega, nrN, show ((k.toNat : Nat) : Int) = k by omega]
theorem cost_cg {S x : Int → Int} (hx : XB S x) : sumZ (fun k => if di S k = 0 then 0 else am S k * ra S k) (S 1) + sumZ (fun k => x k * ra S k) (S 1) = stC S x := by
  rw [sumZ_add]
  refine sumZ_congr (fun k a b => ?_)
  by_cases c : di S k = 0
  · rw [if_pos c, if_pos c]
    omega
  · rw [if_neg c, if_neg c, (hx k a b).2.2 c, Int.zero_mul]
    omega
set_option maxHeartbeats 800000 in
set_option maxRecDepth 100000 in
theorem c_X6_nears (l : Launch) (D : va_G) (cA : Nat → ClassId) (a : Nat → Nat) (G F1 B1 : Int → Int) (s : (Int → Int) × (Int → Int)) (i j c w : Int) (hRF : RF s F1 B1) (hs : Bd s) (hi : 0 ≤ i ∧ i < 7) (hj : 0 ≤ j ∧ j < 7) (hc : -9 ≤ c ∧ c ≤ 9) : MV (U := (Int → Int) × (Int → Int)) l yX6_nears cX6_nears 5 none (rmN 1 0 0) D cA [.ref (a 0), .int (iI i), .int (iI j), .int (iI c), .int (iI w)] [mO a G, [(a 12, aJ (cA 0) 7 F1)], [(a 13, aJ (cA 0) 7 B1)]] (fun u => RF (rch i j c w s) u.1 u.2) (fun u => [mO a G, [(a 12, aJ (cA 0) 7 u.1)], [(a 13, aJ (cA 0) 7 u.2)]]) := by
  refine m_startV pn_X6 rfl (List.forall_mem_cons.mpr ⟨rfl, List.forall_mem_cons.mpr ⟨rfl, List.forall_mem_cons.mpr ⟨rfl, List.forall_mem_cons.mpr ⟨rfl, List.forall_mem_cons.mpr ⟨rfl, fun _ h => absurd h List.not_mem_nil⟩⟩⟩⟩⟩) (Nat.le_of_ble_eq_true rfl) ?_
  intro K C e1 e2 e3 hin hR
  subst e1 e2 e3
  have hf := rch_Bd (c := c) (w := w) hRF hs hi hj
  show J K 0 0 [mO a G, [(a 12, aJ ((kC K) 0) 7 F1)], [(a 13, aJ ((kC K) 0) 7 B1)]] [some (.ref (a 0)), some (.int (iI i)), some (.int (iI j)), some (.int (iI c)), some (.int (iI w))] 0 []
  have L59 : ∀ (F2 B2 : Int → Int) (h3 : RF (rch i j c w s) F2 B2), J K 0 0 [mO a G, [(a 12, aJ ((kC K) 0) 7 F2)], [(a 13, aJ ((kC K) 0) 7 B2)]] [some (.ref (a 0)), some (.int (iI i)), some (.int (iI j)), some (.int (iI c)), some (.int (iI w))] 59 [] := by
    intro F2 B2 h3
    exact hR (F2, B2) dX6_nears_59 (by exact h3) rfl (Nat.le_of_ble_eq_true rfl) (Nat.le_of_ble_eq_true rfl)
  have L37 : ∀ (h1 : F1 i ≠ -1) (h2 : F1 j = -1 ∨ F1 i + c < F1 j), J K 0 0 [mO a G, [(a 12, aJ ((kC K) 0) 7 F1)], [(a 13, aJ ((kC K) 0) 7 B1)]] [some (.ref (a 0)), some (.int (iI i)), some (.int (iI j)), some (.int (iI c)), some (.int (iI w))] 37 [] := by
    intro  h1 h2
    refine j_aload_n C dX6_nears_37 rfl ?_
    refine j_get C 0 0 19 rfl rfl rfl wU_X6 (by decide) wF_X6_43 rfl dX6_nears_38 ?_
    refine j_iload_n C dX6_nears_41 rfl ?_
    refine j_aload_n C dX6_nears_42 rfl ?_
    refine j_get C 0 0 19 rfl rfl rfl wU_X6 (by decide) wF_X6_43 rfl dX6_nears_43 ?_
    refine j_iload_n C dX6_nears_46 rfl ?_
    refine j_iald C 1 0 rfl rfl dX6_nears_47 (by decide) (by omega) (by omega) ?_
    refine j_iload_n C dX6_nears_48 rfl ?_
    refine j_iadd C dX6_nears_49 ?_
    refine j_iast_p1 C 0 rfl ar1_ast dX6_nears_50 (by decide) (by omega) (by omega) ?_
    refine j_aload_n C dX6_nears_51 rfl ?_
    refine j_get C 0 0 20 rfl rfl rfl wU_X6 (by decide) wF_X6_46 rfl dX6_nears_52 ?_
    refine j_iload_n C dX6_nears_55 rfl ?_
    refine j_iload C dX6_nears_56 rfl ?_
    refine j_iast_p2 C 0 rfl ar1_ast dX6_nears_58 (by decide) (by omega) (by omega) ?_
    exact L59 _ _ (by first | exact RF_up hRF hs hi hj hc h1 h2 | exact RF_no hRF hs hi hj (by omega))
  refine j_aload_n C dX6_nears_0 rfl ?_
  refine j_get C 0 0 19 rfl rfl rfl wU_X6 (by decide) wF_X6_43 rfl dX6_nears_1 ?_
  refine j_iload_n C dX6_nears_4 rfl ?_
  refine j_iald C 1 0 rfl rfl dX6_nears_5 (by decide) (by omega) (by omega) ?_
  refine j_iconst C dX6_nears_6 ?_
  refine j_icmp_eq (tgt := 59) C dX6_nears_7 (by decide) (by omega) (by omega) (by omega) (by omega) (fun c7 => ?_) (fun c7 => ?_)
  · exact L59 _ _ (by first | exact RF_up hRF hs hi hj hc h1 h2 | exact RF_no hRF hs hi hj (by omega))
  · refine j_aload_n C dX6_nears_10 rfl ?_
    refine j_get C 0 0 19 rfl rfl rfl wU_X6 (by decide) wF_X6_43 rfl dX6_nears_11 ?_
    refine j_iload_n C dX6_nears_14 rfl ?_
    refine j_iald C 1 0 rfl rfl dX6_nears_15 (by decide) (by omega) (by omega) ?_
    refine j_iconst C dX6_nears_16 ?_
    refine j_icmp_eq (tgt := 37) C dX6_nears_17 (by decide) (by omega) (by omega) (by omega) (by omega) (fun c17 => ?_) (fun c17 => ?_)
    · exact L37 (by omega) (by omega)
    · refine j_aload_n C dX6_nears_20 rfl ?_
      refine j_get C 0 0 19 rfl rfl rfl wU_X6 (by decide) wF_X6_43 rfl dX6_nears_21 ?_
      refine j_iload_n C dX6_nears_24 rfl ?_
      refine j_iald C 1 0 rfl rfl dX6_nears_25 (by decide) (by omega) (by omega) ?_
      refine j_iload_n C dX6_nears_26 rfl ?_
      refine j_iadd C dX6_nears_27 ?_
      refine j_aload_n C dX6_nears_28 rfl ?_
      refine j_get C 0 0 19 rfl rfl rfl wU_X6 (by decide) wF_X6_43 rfl dX6_nears_29 ?_
      refine j_iload_n C dX6_nears_32 rfl ?_
      refine j_iald C 1 0 rfl rfl dX6_nears_33 (by decide) (by omega) (by omega) ?_
      refine j_icmp_ge (tgt := 59) C dX6_nears_34 (by decide) (by omega) (by omega) (by omega) (by omega) (fun c34 => ?_) (fun c34 => ?_)
      · exact L59 _ _ (by first | exact RF_up hRF hs hi hj hc h1 h2 | exact RF_no hRF hs hi hj (by omega))
      · exact L37 (by omega) (by omega)
set_option maxHeartbeats 800000 in
set_option maxRecDepth 100000 in
theorem c_X6_ways (l : Launch) (D : va_G) (cA : Nat → ClassId) (a : Nat → Nat) (G M X L1 F1 B1 S x e : Int → Int) (hI : Inv S) (hA : Ag S M) (hL : LI S x e) (hX : AG (S 1) X x) (hE : NG7 L1 e) : MV (U := (Int → Int) × (Int → Int)) l yX6_ways cX6_ways 4 none (rmN 2 0 0) D cA [.ref (a 0)] [mO a G, [(a 1, aJ (cA 0) 325 M)], [(a 10, aJ (cA 0) 40 X)], [(a 11, aJ (cA 0) 7 L1)], [(a 12, aJ (cA 0) 7 F1)], [(a 13, aJ (cA 0) 7 B1)]] (fun u => RF (meas S x e) u.1 u.2) (fun u => [mO a G, [(a 1, aJ (cA 0) 325 M)], [(a 10, aJ (cA 0) 40 X)], [(a 11, aJ (cA 0) 7 L1)], [(a 12, aJ (cA 0) 7 u.1)], [(a 13, aJ (cA 0) 7 u.2)]]) := by
  refine m_startV pn_X6 rfl (List.forall_mem_cons.mpr ⟨rfl, fun _ h => absurd h List.not_mem_nil⟩) (Nat.le_of_ble_eq_true rfl) ?_
  intro K C e1 e2 e3 hin hR
  subst e1 e2 e3
  have hN := hI.2.1
  have hM1 := (Ag_h hA hN.1).2.1
  show J K 0 0 [mO a G, [(a 1, aJ ((kC K) 0) 325 M)], [(a 10, aJ ((kC K) 0) 40 X)], [(a 11, aJ ((kC K) 0) 7 L1)], [(a 12, aJ ((kC K) 0) 7 F1)], [(a 13, aJ ((kC K) 0) 7 B1)]] [some (.ref (a 0)), none, none, none] 0 []
  refine j_iconst C dX6_ways_0 ?_
  refine j_istn_1 C dX6_ways_1 rfl ?_
  have L2 : ∀ (fuel : Nat) (i : Int) (F2 B2 : Int → Int) (hi : 0 ≤ i ∧ i ≤ 7) (h2 : ∀ q : Int, 0 ≤ q → q < i → F2 q = fD ((ini e).1 q) ∧ B2 q = -1) (hf2 : (7 - i).toNat < fuel), J K 0 0 [mO a G, [(a 1, aJ ((kC K) 0) 325 M)], [(a 10, aJ ((kC K) 0) 40 X)], [(a 11, aJ ((kC K) 0) 7 L1)], [(a 12, aJ ((kC K) 0) 7 F2)], [(a 13, aJ ((kC K) 0) 7 B2)]] [some (.ref (a 0)), some (.int (iI i)), none, none] 2 [] := by
    intro fuel
    induction fuel with
    | zero => intro i F2 B2 hi h2 hf2; exact absurd hf2 (Nat.not_lt_zero _)
    | succ fuel ih2 =>
      intro i F2 B2 hi h2 hf2
      refine j_iload_n C dX6_ways_2 rfl ?_
      refine j_bipush C dX6_ways_3 (by decide) ?_
      refine j_icmp_ge (tgt := 41) C dX6_ways_5 (by decide) (by omega) (by omega) (by omega) (by omega) (fun c5 => ?_) (fun c5 => ?_)
      · refine j_iconst C dX6_ways_41 ?_
        refine j_istn_1 C dX6_ways_42 rfl ?_
        have L43 : ∀ (fuel : Nat) (r : Int) (F3 B3 : Int → Int) (hr : 0 ≤ r ∧ r ≤ 7) (h3 : RF (rnds S x r.toNat (ini e)) F3 B3) (hf43 : (7 - r).toNat < fuel), J K 0 0 [mO a G, [(a 1, aJ ((kC K) 0) 325 M)], [(a 10, aJ ((kC K) 0) 40 X)], [(a 11, aJ ((kC K) 0) 7 L1)], [(a 12, aJ ((kC K) 0) 7 F3)], [(a 13, aJ ((kC K) 0) 7 B3)]] [some (.ref (a 0)), some (.int (iI r)), none, none] 43 [] := by
          intro fuel
          induction fuel with
          | zero => intro r F3 B3 hr h3 hf43; exact absurd hf43 (Nat.not_lt_zero _)
          | succ fuel ih43 =>
            intro r F3 B3 hr h3 hf43
            refine j_iload_n C dX6_ways_43 rfl ?_
            refine j_bipush C dX6_ways_44 (by decide) ?_
            refine j_icmp_ge (tgt := 205) C dX6_ways_46 (by decide) (by omega) (by omega) (by omega) (by omega) (fun c46 => ?_) (fun c46 => ?_)
            · refine hR (F3, B3) dX6_ways_205 ?_ rfl (Nat.le_of_ble_eq_true rfl) (Nat.le_of_ble_eq_true rfl)
              rw [show r.toNat = 7 by omega] at h3
              exact h3
            · refine j_iconst C dX6_ways_49 ?_
              refine j_istn_2 C dX6_ways_50 rfl ?_
              have L51 : ∀ (fuel : Nat) (i : Int) (F4 B4 : Int → Int) (hi : 0 ≤ i ∧ i ≤ S 1) (h4 : RF (rndN S x i.toNat (rnds S x r.toNat (ini e))) F4 B4) (hf51 : (S 1 - i).toNat < fuel), J K 0 0 [mO a G, [(a 1, aJ ((kC K) 0) 325 M)], [(a 10, aJ ((kC K) 0) 40 X)], [(a 11, aJ ((kC K) 0) 7 L1)], [(a 12, aJ ((kC K) 0) 7 F4)], [(a 13, aJ ((kC K) 0) 7 B4)]] [some (.ref (a 0)), some (.int (iI r)), some (.int (iI i)), none] 51 [] := by
                intro fuel
                induction fuel with
                | zero => intro i F4 B4 hi h4 hf51; exact absurd hf51 (Nat.not_lt_zero _)
                | succ fuel ih51 =>
                  intro i F4 B4 hi h4 hf51
                  refine j_iload_n C dX6_ways_51 rfl ?_
                  refine j_aload_n C dX6_ways_52 rfl ?_
                  refine j_get C 0 0 0 rfl rfl rfl wU_X6 (by decide) wF_X6_7 rfl dX6_ways_53 ?_
                  refine j_iconst C dX6_ways_56 ?_
                  refine j_iald C 1 0 rfl rfl dX6_ways_57 (by decide) (by omega) (by omega) ?_
                  refine j_icmp_ge (tgt := 199) C dX6_ways_58 (by decide) (by omega) (by omega) (by omega) (by omega) (fun c58 => ?_) (fun c58 => ?_)
                  · refine j_iinc_1 C dX6_ways_199 rfl ?_
                    refine j_goto (tgt := 43) C dX6_ways_202 (by decide) ?_
                    exact j_lle (lv' := [_, _, none, none]) ⟨Or.inr rfl, ⟨Or.inr rfl, ⟨Or.inl rfl, ⟨Or.inl rfl, trivial⟩⟩⟩⟩ (ih43 _ _ _ (by omega) (by rw [show (r + 1).toNat = r.toNat + 1 by omega, rnds]; unfold rnd; rw [show (S 1).toNat = i.toNat by omega]; exact h4) (by omega))
                  · have f := hI.2.2 i hi.1 (by omega)
                    have g := hI.1
                    obtain ⟨e1, e2, e3, e4, e5⟩ := Ag_c hA hi.1 (show i < S 1 by omega)
                    have hxi := hL.1 i hi.1 (by omega)
                    have hXi := hX i hi.1 (by omega)
                    have hbd := rnd_Bd hI hL r.toNat i.toNat (by omega)
                    rw [show ((i.toNat : Nat) : Int) = i by omega] at hbd
                    refine j_aload_n C dX6_ways_61 rfl ?_
                    have L79 : ∀ (z : Int) (hz : z = if di S i = 0 then 1 else 0), J K 0 0 [mO a G, [(a 1, aJ ((kC K) 0) 325 M)], [(a 10, aJ ((kC K) 0) 40 X)], [(a 11, aJ ((kC K) 0) 7 L1)], [(a 12, aJ ((kC K) 0) 7 F4)], [(a 13, aJ ((kC K) 0) 7 B4)]] [some (.ref (a 0)), some (.int (iI r)), some (.int (iI i)), none] 79 [.int (iI z)] := by
                      intro z hz
                      have hzb : z = 0 ∨ z = 1 := by rw [hz]; split <;> omega
                      refine j_istn_3 C dX6_ways_79 rfl ?_
                      have L140 : ∀ (F5 B5 : Int → Int) (h5 : RF (if di S i = 0 then shr1 S x i (rndN S x i.toNat (rnds S x r.toNat (ini e))) else (rndN S x i.toNat (rnds S x r.toNat (ini e)))) F5 B5), J K 0 0 [mO a G, [(a 1, aJ ((kC K) 0) 325 M)], [(a 10, aJ ((kC K) 0) 40 X)], [(a 11, aJ ((kC K) 0) 7 L1)], [(a 12, aJ ((kC K) 0) 7 F5)], [(a 13, aJ ((kC K) 0) 7 B5)]] [some (.ref (a 0)), some (.int (iI r)), some (.int (iI i)), some (.int (iI z))] 140 [] := by
                        intro F5 B5 h5
                        have L193 : ∀ (F6 B6 : Int → Int) (h6 : RF (rndN S x (i + 1).toNat (rnds S x r.toNat (ini e))) F6 B6), J K 0 0 [mO a G, [(a 1, aJ ((kC K) 0) 325 M)], [(a 10, aJ ((kC K) 0) 40 X)], [(a 11, aJ ((kC K) 0) 7 L1)], [(a 12, aJ ((kC K) 0) 7 F6)], [(a 13, aJ ((kC K) 0) 7 B6)]] [some (.ref (a 0)), some (.int (iI r)), some (.int (iI i)), none] 193 [] := by
                          intro F6 B6 h6
                          refine j_iinc_2 C dX6_ways_193 rfl ?_
                          refine j_goto (tgt := 51) C dX6_ways_196 (by decide) ?_
                          exact ih51 _ _ _ (by omega) (by exact h6) (by omega)
                        refine j_iload_n C dX6_ways_140 rfl ?_
                        refine j_if_eq (tgt := 193) C dX6_ways_141 (by decide) (by omega) (by omega) (fun c141 => ?_) (fun c141 => ?_)
                        · exact j_lle (lv' := [_, _, _, none]) ⟨Or.inr rfl, ⟨Or.inr rfl, ⟨Or.inr rfl, ⟨Or.inl rfl, trivial⟩⟩⟩⟩ (L193 _ _ (by rw [rnd_one hi.1 ⟨hxi.1, hxi.2.1⟩, if_neg (fun q => by rw [if_pos q] at hz; omega)]; rw [if_neg (fun q => by rw [if_pos q] at hz; omega)] at h5; exact h5))
                        · have hd0 : di S i = 0 := Classical.byContradiction (fun q => by rw [if_neg q] at hz; omega)
                          refine j_aload_n C dX6_ways_144 rfl ?_
                          refine j_get C 0 0 17 rfl rfl rfl wU_X6 (by decide) wF_X6_37 rfl dX6_ways_145 ?_
                          refine j_iload_n C dX6_ways_148 rfl ?_
                          refine j_iald C 2 0 rfl rfl dX6_ways_149 (by decide) (by omega) (by omega) ?_
                          refine j_if_le (tgt := 193) C dX6_ways_150 (by decide) (by omega) (by omega) (fun c150 => ?_) (fun c150 => ?_)
                          · exact j_lle (lv' := [_, _, _, none]) ⟨Or.inr rfl, ⟨Or.inr rfl, ⟨Or.inr rfl, ⟨Or.inl rfl, trivial⟩⟩⟩⟩ (L193 _ _ (by rw [rnd_one hi.1 ⟨hxi.1, hxi.2.1⟩, if_pos hd0, show shr2 S x i (shr1 S x i (rndN S x i.toNat (rnds S x r.toNat (ini e)))) = shr1 S x i (rndN S x i.toNat (rnds S x r.toNat (ini e))) from if_neg (by omega)]; rw [if_pos hd0] at h5; exact h5))
                          · refine j_aload_n C dX6_ways_153 rfl ?_
                            refine j_aload_n C dX6_ways_154 rfl ?_
                            refine j_get C 0 0 0 rfl rfl rfl wU_X6 (by decide) wF_X6_7 rfl dX6_ways_155 ?_
                            refine j_iload_n C dX6_ways_158 rfl ?_
                            refine j_iconst C dX6_ways_159 ?_
                            refine j_perm (pm_6 _ _ _ _ _ _) ?_
                            refine j_callSi C (As := [.int (iI _), .int (iI _)]) (c_X6_p _ _ _ _ _ ) 2 nf_X6_p.2 wL_X6_79 wS_X6_p wIn_X6 wC_X6_p rfl rfl (by decide) dX6_ways_160 (Nat.le_of_ble_eq_true rfl) ⟨Nat.le_of_ble_eq_true rfl, Nat.le_of_ble_eq_true rfl⟩ (fun x160 u160 h160 => ?_)
                            refine j_perm (pr_6 _ _ _ _ _ _) ?_
                            subst h160
                            refine j_iald C 1 0 rfl rfl dX6_ways_163 (by decide) (by omega) (by omega) ?_
                            refine j_aload_n C dX6_ways_164 rfl ?_
                            refine j_get C 0 0 0 rfl rfl rfl wU_X6 (by decide) wF_X6_7 rfl dX6_ways_165 ?_
                            refine j_iload_n C dX6_ways_168 rfl ?_
                            refine j_iconst C dX6_ways_169 ?_
                            refine j_perm (pm_6 _ _ _ _ _ _) ?_
                            refine j_callSi C (As := [.int (iI _), .int (iI _)]) (c_X6_p _ _ _ _ _ ) 2 nf_X6_p.2 wL_X6_79 wS_X6_p wIn_X6 wC_X6_p rfl rfl (by decide) dX6_ways_170 (Nat.le_of_ble_eq_true rfl) ⟨Nat.le_of_ble_eq_true rfl, Nat.le_of_ble_eq_true rfl⟩ (fun x170 u170 h170 => ?_)
                            refine j_perm (pr_6 _ _ _ _ _ _) ?_
                            subst h170
                            refine j_iald C 1 0 rfl rfl dX6_ways_173 (by decide) (by omega) (by omega) ?_
                            refine j_aload_n C dX6_ways_174 rfl ?_
                            refine j_get C 0 0 0 rfl rfl rfl wU_X6 (by decide) wF_X6_7 rfl dX6_ways_175 ?_
                            refine j_iload_n C dX6_ways_178 rfl ?_
                            refine j_iconst C dX6_ways_179 ?_
                            refine j_perm (pm_6 _ _ _ _ _ _) ?_
                            refine j_callSi C (As := [.int (iI _), .int (iI _)]) (c_X6_p _ _ _ _ _ ) 2 nf_X6_p.2 wL_X6_79 wS_X6_p wIn_X6 wC_X6_p rfl rfl (by decide) dX6_ways_180 (Nat.le_of_ble_eq_true rfl) ⟨Nat.le_of_ble_eq_true rfl, Nat.le_of_ble_eq_true rfl⟩ (fun x180 u180 h180 => ?_)
                            refine j_perm (pr_6 _ _ _ _ _ _) ?_
                            subst h180
                            refine j_iald C 1 0 rfl rfl dX6_ways_183 (by decide) (by omega) (by omega) ?_
                            refine j_ineg C dX6_ways_184 ?_
                            refine j_iconst C dX6_ways_185 ?_
                            refine j_iload_n C dX6_ways_186 rfl ?_
                            refine j_imul C dX6_ways_187 ?_
                            refine j_iconst C dX6_ways_188 ?_
                            refine j_iadd C dX6_ways_189 ?_
                            refine j_perm (pm_6_0_4_5 _ _ _ _ _ _) ?_
                            refine j_callVv C (As := [.int (iI _), .int (iI _), .int (iI _), .int (iI _)]) (c_X6_nears _ _ _ _ _ _ _ ((shr1 S x i (rndN S x i.toNat (rnds S x r.toNat (ini e))))) _ _ _ _ (by rw [if_pos hd0] at h5; exact h5) (by exact hbd.2 (by omega) hd0) (by omega) (by omega) (by omega)) 4 nf_X6_nears (jb := 0) rfl rfl wL_X6_188 wI_X6_nears wSe_X6_X6_nears wIn_X6 wC_X6_nears rfl rfl (by decide) dX6_ways_190 (Nat.le_of_ble_eq_true rfl) ⟨Nat.le_of_ble_eq_true rfl, Nat.le_of_ble_eq_true rfl⟩ (fun u190 h190 => ?_)
                            refine j_perm (pr_6_0_4_5 _ _ _ _ _ _) ?_
                            have e190 : shr2 S x i (shr1 S x i (rndN S x i.toNat (rnds S x r.toNat (ini e)))) = rch (M (5 + 8 * i + 1)) (M (5 + 8 * i + 0)) (-M (5 + 8 * i + 3)) (2 * i + 1) (shr1 S x i (rndN S x i.toNat (rnds S x r.toNat (ini e)))) := by rw [e1, e2, e4]; exact if_pos (by omega)
                            exact j_lle (lv' := [_, _, _, none]) ⟨Or.inr rfl, ⟨Or.inr rfl, ⟨Or.inr rfl, ⟨Or.inl rfl, trivial⟩⟩⟩⟩ (L193 _ _ (by rw [rnd_one hi.1 ⟨hxi.1, hxi.2.1⟩, if_pos hd0, e190]; exact h190))
                      refine j_iload_n C dX6_ways_80 rfl ?_
                      refine j_if_eq (tgt := 140) C dX6_ways_81 (by decide) (by omega) (by omega) (fun c81 => ?_) (fun c81 => ?_)
                      · exact L140 _ _ (by rw [if_neg (fun q => by rw [if_pos q] at hz; omega)]; exact h4)
                      · have hd0 : di S i = 0 := Classical.byContradiction (fun q => by rw [if_neg q] at hz; omega)
                        refine j_aload_n C dX6_ways_84 rfl ?_
                        refine j_get C 0 0 17 rfl rfl rfl wU_X6 (by decide) wF_X6_37 rfl dX6_ways_85 ?_
                        refine j_iload_n C dX6_ways_88 rfl ?_
                        refine j_iald C 2 0 rfl rfl dX6_ways_89 (by decide) (by omega) (by omega) ?_
                        refine j_aload_n C dX6_ways_90 rfl ?_
                        refine j_get C 0 0 0 rfl rfl rfl wU_X6 (by decide) wF_X6_7 rfl dX6_ways_91 ?_
                        refine j_iload_n C dX6_ways_94 rfl ?_
                        refine j_iconst C dX6_ways_95 ?_
                        refine j_perm (pm_6 _ _ _ _ _ _) ?_
                        refine j_callSi C (As := [.int (iI _), .int (iI _)]) (c_X6_p _ _ _ _ _ ) 2 nf_X6_p.2 wL_X6_79 wS_X6_p wIn_X6 wC_X6_p rfl rfl (by decide) dX6_ways_96 (Nat.le_of_ble_eq_true rfl) ⟨Nat.le_of_ble_eq_true rfl, Nat.le_of_ble_eq_true rfl⟩ (fun x96 u96 h96 => ?_)
                        refine j_perm (pr_6 _ _ _ _ _ _) ?_
                        subst h96
                        refine j_iald C 1 0 rfl rfl dX6_ways_99 (by decide) (by omega) (by omega) ?_
                        refine j_icmp_ge (tgt := 140) C dX6_ways_100 (by decide) (by omega) (by omega) (by omega) (by omega) (fun c100 => ?_) (fun c100 => ?_)
                        · exact L140 _ _ (by rw [show shr1 S x i (rndN S x i.toNat (rnds S x r.toNat (ini e))) = (rndN S x i.toNat (rnds S x r.toNat (ini e))) from if_neg (by omega), ite_self]; exact h4)
                        · refine j_aload_n C dX6_ways_103 rfl ?_
                          refine j_aload_n C dX6_ways_104 rfl ?_
                          refine j_get C 0 0 0 rfl rfl rfl wU_X6 (by decide) wF_X6_7 rfl dX6_ways_105 ?_
                          refine j_iload_n C dX6_ways_108 rfl ?_
                          refine j_iconst C dX6_ways_109 ?_
                          refine j_perm (pm_6 _ _ _ _ _ _) ?_
                          refine j_callSi C (As := [.int (iI _), .int (iI _)]) (c_X6_p _ _ _ _ _ ) 2 nf_X6_p.2 wL_X6_79 wS_X6_p wIn_X6 wC_X6_p rfl rfl (by decide) dX6_ways_110 (Nat.le_of_ble_eq_true rfl) ⟨Nat.le_of_ble_eq_true rfl, Nat.le_of_ble_eq_true rfl⟩ (fun x110 u110 h110 => ?_)
                          refine j_perm (pr_6 _ _ _ _ _ _) ?_
                          subst h110
                          refine j_iald C 1 0 rfl rfl dX6_ways_113 (by decide) (by omega) (by omega) ?_
                          refine j_aload_n C dX6_ways_114 rfl ?_
                          refine j_get C 0 0 0 rfl rfl rfl wU_X6 (by decide) wF_X6_7 rfl dX6_ways_115 ?_
                          refine j_iload_n C dX6_ways_118 rfl ?_
                          refine j_iconst C dX6_ways_119 ?_
                          refine j_perm (pm_6 _ _ _ _ _ _) ?_
                          refine j_callSi C (As := [.int (iI _), .int (iI _)]) (c_X6_p _ _ _ _ _ ) 2 nf_X6_p.2 wL_X6_79 wS_X6_p wIn_X6 wC_X6_p rfl rfl (by decide) dX6_ways_120 (Nat.le_of_ble_eq_true rfl) ⟨Nat.le_of_ble_eq_true rfl, Nat.le_of_ble_eq_true rfl⟩ (fun x120 u120 h120 => ?_)
                          refine j_perm (pr_6 _ _ _ _ _ _) ?_
                          subst h120
                          refine j_iald C 1 0 rfl rfl dX6_ways_123 (by decide) (by omega) (by omega) ?_
                          refine j_aload_n C dX6_ways_124 rfl ?_
                          refine j_get C 0 0 0 rfl rfl rfl wU_X6 (by decide) wF_X6_7 rfl dX6_ways_125 ?_
                          refine j_iload_n C dX6_ways_128 rfl ?_
                          refine j_iconst C dX6_ways_129 ?_
                          refine j_perm (pm_6 _ _ _ _ _ _) ?_
                          refine j_callSi C (As := [.int (iI _), .int (iI _)]) (c_X6_p _ _ _ _ _ ) 2 nf_X6_p.2 wL_X6_79 wS_X6_p wIn_X6 wC_X6_p rfl rfl (by decide) dX6_ways_130 (Nat.le_of_ble_eq_true rfl) ⟨Nat.le_of_ble_eq_true rfl, Nat.le_of_ble_eq_true rfl⟩ (fun x130 u130 h130 => ?_)
                          refine j_perm (pr_6 _ _ _ _ _ _) ?_
                          subst h130
                          refine j_iald C 1 0 rfl rfl dX6_ways_133 (by decide) (by omega) (by omega) ?_
                          refine j_iconst C dX6_ways_134 ?_
                          refine j_iload_n C dX6_ways_135 rfl ?_
                          refine j_imul C dX6_ways_136 ?_
                          refine j_perm (pm_6_0_4_5 _ _ _ _ _ _) ?_
                          refine j_callVv C (As := [.int (iI _), .int (iI _), .int (iI _), .int (iI _)]) (c_X6_nears _ _ _ _ _ _ _ ((rndN S x i.toNat (rnds S x r.toNat (ini e)))) _ _ _ _ (by exact h4) (by exact hbd.1) (by omega) (by omega) (by omega)) 4 nf_X6_nears (jb := 0) rfl rfl wL_X6_188 wI_X6_nears wSe_X6_X6_nears wIn_X6 wC_X6_nears rfl rfl (by decide) dX6_ways_137 (Nat.le_of_ble_eq_true rfl) ⟨Nat.le_of_ble_eq_true rfl, Nat.le_of_ble_eq_true rfl⟩ (fun u137 h137 => ?_)
                          refine j_perm (pr_6_0_4_5 _ _ _ _ _ _) ?_
                          have e137 : shr1 S x i (rndN S x i.toNat (rnds S x r.toNat (ini e))) = rch (M (5 + 8 * i + 0)) (M (5 + 8 * i + 1)) (M (5 + 8 * i + 3)) (2 * i) (rndN S x i.toNat (rnds S x r.toNat (ini e))) := by rw [e1, e2, e4]; exact if_pos (by omega)
                          exact L140 _ _ (by rw [if_pos hd0, e137]; exact h137)
                    refine j_get C 0 0 0 rfl rfl rfl wU_X6 (by decide) wF_X6_7 rfl dX6_ways_62 ?_
                    refine j_iload_n C dX6_ways_65 rfl ?_
                    refine j_iconst C dX6_ways_66 ?_
                    refine j_perm (pm_6 _ _ _ _ _ _) ?_
                    refine j_callSi C (As := [.int (iI _), .int (iI _)]) (c_X6_p _ _ _ _ _ ) 2 nf_X6_p.2 wL_X6_79 wS_X6_p wIn_X6 wC_X6_p rfl rfl (by decide) dX6_ways_67 (Nat.le_of_ble_eq_true rfl) ⟨Nat.le_of_ble_eq_true rfl, Nat.le_of_ble_eq_true rfl⟩ (fun x67 u67 h67 => ?_)
                    refine j_perm (pr_6 _ _ _ _ _ _) ?_
                    subst h67
                    refine j_iald C 1 0 rfl rfl dX6_ways_70 (by decide) (by omega) (by omega) ?_
                    refine j_if_ne (tgt := 78) C dX6_ways_71 (by decide) (by omega) (by omega) (fun c71 => ?_) (fun c71 => ?_)
                    · refine j_iconst C dX6_ways_78 ?_
                      exact L79 _ (by first | (rw [if_pos (by omega)]; done) | (rw [if_neg (by omega)]; done))
                    · refine j_iconst C dX6_ways_74 ?_
                      refine j_goto (tgt := 79) C dX6_ways_75 (by decide) ?_
                      exact L79 _ (by first | (rw [if_pos (by omega)]; done) | (rw [if_neg (by omega)]; done))
              exact L51 _ _ _ _ (by omega) (by exact h3) (Nat.lt_succ_self _)
        exact L43 _ _ _ _ (by omega) (by exact fun q a b => h2 q a (by omega)) (Nat.lt_succ_self _)
      · refine j_aload_n C dX6_ways_8 rfl ?_
        refine j_get C 0 0 19 rfl rfl rfl wU_X6 (by decide) wF_X6_43 rfl dX6_ways_9 ?_
        have L27 : ∀ (v : Int) (hv : v = fD ((ini e).1 i)), J K 0 0 [mO a G, [(a 1, aJ ((kC K) 0) 325 M)], [(a 10, aJ ((kC K) 0) 40 X)], [(a 11, aJ ((kC K) 0) 7 L1)], [(a 12, aJ ((kC K) 0) 7 F2)], [(a 13, aJ ((kC K) 0) 7 B2)]] [some (.ref (a 0)), some (.int (iI i)), none, none] 27 [.int (iI v), .int (iI i), .ref (a 12)] := by
          intro v hv
          refine j_iast_p4 C 0 rfl ar1_ast dX6_ways_27 (by decide) (by omega) (by omega) ?_
          refine j_aload_n C dX6_ways_28 rfl ?_
          refine j_get C 0 0 20 rfl rfl rfl wU_X6 (by decide) wF_X6_46 rfl dX6_ways_29 ?_
          refine j_iload_n C dX6_ways_32 rfl ?_
          refine j_iconst C dX6_ways_33 ?_
          refine j_iast_p5 C 0 rfl ar1_ast dX6_ways_34 (by decide) (by omega) (by omega) ?_
          refine j_iinc_1 C dX6_ways_35 rfl ?_
          refine j_goto (tgt := 2) C dX6_ways_38 (by decide) ?_
          exact ih2 _ _ _ (by omega) (by intro q a b; by_cases z : q = i; (subst z; rw [st_s, st_s]; exact ⟨hv, rfl⟩); (rw [st_n z, st_n z]; exact h2 q a (by omega))) (by omega)
        refine j_iload_n C dX6_ways_12 rfl ?_
        refine j_aload_n C dX6_ways_13 rfl ?_
        have hEi := hE i hi.1 (by omega)
        have hLi := hL.2.2 i hi.1 (by omega)
        refine j_get C 0 0 18 rfl rfl rfl wU_X6 (by decide) wF_X6_40 rfl dX6_ways_14 ?_
        refine j_iload_n C dX6_ways_17 rfl ?_
        refine j_iald C 3 0 rfl rfl dX6_ways_18 (by decide) (by omega) (by omega) ?_
        refine j_if_ge (tgt := 26) C dX6_ways_19 (by decide) (by omega) (by omega) (fun c19 => ?_) (fun c19 => ?_)
        · refine j_iconst C dX6_ways_26 ?_
          exact L27 _ (by rw [fD_ini]; first | (rw [if_pos (show 0 < e i by omega)]; done) | (rw [if_neg (show ¬ 0 < e i by omega)]; done))
        · refine j_iconst C dX6_ways_22 ?_
          refine j_goto (tgt := 27) C dX6_ways_23 (by decide) ?_
          exact L27 _ (by rw [fD_ini]; first | (rw [if_pos (show 0 < e i by omega)]; done) | (rw [if_neg (show ¬ 0 < e i by omega)]; done))
  exact L2 _ _ _ _ (by omega) (by intro q a b; omega) (Nat.lt_succ_self _)
set_option maxHeartbeats 800000 in
set_option maxRecDepth 100000 in
theorem c_X6_nearest (l : Launch) (D : va_G) (cA : Nat → ClassId) (a : Nat → Nat) (G L1 F1 e D1 : Int → Int) (hE : NG7 L1 e) (hF : ∀ p : Int, 0 ≤ p → p < 7 → F1 p = fD (D1 p)) (he : ∀ p : Int, 0 ≤ p → p < 7 → -40000 ≤ e p ∧ e p ≤ 40000) (hDb : ∀ p : Int, 0 ≤ p → p < 7 → D1 p = FAR ∨ (0 ≤ D1 p ∧ D1 p ≤ 54)) : MI (U := Unit) l yX6_nearest cX6_nearest 3 (some .int) (rmN 1 0 0) D cA [.ref (a 0)] [mO a G, [(a 11, aJ (cA 0) 7 L1)], [(a 12, aJ (cA 0) 7 F1)]] (fun x _ => x = near D1 e) (fun _ => [mO a G, [(a 11, aJ (cA 0) 7 L1)], [(a 12, aJ (cA 0) 7 F1)]]) := by
  refine m_startI pn_X6 rfl (List.forall_mem_cons.mpr ⟨rfl, fun _ h => absurd h List.not_mem_nil⟩) (Nat.le_of_ble_eq_true rfl) ?_
  intro K C e1 e2 e3 hin hR
  subst e1 e2 e3
  show J K 0 0 [mO a G, [(a 11, aJ ((kC K) 0) 7 L1)], [(a 12, aJ ((kC K) 0) 7 F1)]] [some (.ref (a 0)), none, none] 0 []
  refine j_iconst C dX6_nearest_0 ?_
  refine j_istn_1 C dX6_nearest_1 rfl ?_
  refine j_iconst C dX6_nearest_2 ?_
  refine j_istn_2 C dX6_nearest_3 rfl ?_
  have L4 : ∀ (fuel : Nat) (y k : Int) (hk : 0 ≤ k ∧ k ≤ 7) (hy : y = (nrN D1 e k.toNat).1) (hf4 : (7 - k).toNat < fuel), J K 0 0 [mO a G, [(a 11, aJ ((kC K) 0) 7 L1)], [(a 12, aJ ((kC K) 0) 7 F1)]] [some (.ref (a 0)), some (.int (iI y)), some (.int (iI k))] 4 [] := by
    intro fuel
    induction fuel with
    | zero => intro y k hk hy hf4; exact absurd hf4 (Nat.not_lt_zero _)
    | succ fuel ih4 =>
      intro y k hk hy hf4
      have hnr := nrN_ok D1 e k.toNat
      refine j_iload_n C dX6_nearest_4 rfl ?_
      refine j_bipush C dX6_nearest_5 (by decide) ?_
      refine j_icmp_ge (tgt := 57) C dX6_nearest_7 (by decide) (by omega) (by omega) (by omega) (by omega) (fun c7 => ?_) (fun c7 => ?_)
      · refine j_iload_n C dX6_nearest_57 rfl ?_
        refine hR () dX6_nearest_58 ?_ rfl (Nat.le_of_ble_eq_true rfl) (Nat.le_of_ble_eq_true rfl)
        rw [show k.toNat = 7 by omega] at hy
        exact hy
      · have hEk := hE k hk.1 (by omega)
        have hek := he k hk.1 (by omega)
        have hFk := hF k hk.1 (by omega)
        have hDk := hDb k hk.1 (by omega)
        have eF : FAR = 1000000 := rfl
        have hFk2 : (F1 k = -1 ∧ D1 k = FAR) ∨ (F1 k = D1 k ∧ D1 k ≠ FAR) := by unfold fD at hFk; split at hFk <;> omega
        have hnr2 : (y = -1 ∧ (nrN D1 e k.toNat).2 = FAR) ∨ (0 ≤ y ∧ y < 7 ∧ D1 y = (nrN D1 e k.toNat).2 ∧ (nrN D1 e k.toNat).2 < FAR) := by rw [hy]; rcases hnr with z | z <;> omega
        refine j_aload_n C dX6_nearest_10 rfl ?_
        refine j_get C 0 0 18 rfl rfl rfl wU_X6 (by decide) wF_X6_40 rfl dX6_nearest_11 ?_
        have L51 : ∀ (y2 : Int) (hy2 : y2 = (nrN D1 e (k + 1).toNat).1), J K 0 0 [mO a G, [(a 11, aJ ((kC K) 0) 7 L1)], [(a 12, aJ ((kC K) 0) 7 F1)]] [some (.ref (a 0)), some (.int (iI y2)), some (.int (iI k))] 51 [] := by
          intro y2 hy2
          refine j_iinc_2 C dX6_nearest_51 rfl ?_
          refine j_goto (tgt := 4) C dX6_nearest_54 (by decide) ?_
          exact ih4 _ _ (by omega) (by exact hy2) (by omega)
        have L49 : ∀ (hup : e k < 0 ∧ D1 k < (nrN D1 e k.toNat).2), J K 0 0 [mO a G, [(a 11, aJ ((kC K) 0) 7 L1)], [(a 12, aJ ((kC K) 0) 7 F1)]] [some (.ref (a 0)), some (.int (iI y)), some (.int (iI k))] 49 [] := by
          intro  hup
          refine j_iload_n C dX6_nearest_49 rfl ?_
          refine j_istn_1 C dX6_nearest_50 rfl ?_
          exact L51 _ (by rw [nr_s D1 e hk.1]; first | (rw [if_pos (by omega)]; done) | (rw [if_neg (by omega)]; exact hy))
        refine j_iload_n C dX6_nearest_14 rfl ?_
        refine j_iald C 1 0 rfl rfl dX6_nearest_15 (by decide) (by omega) (by omega) ?_
        refine j_if_le (tgt := 51) C dX6_nearest_16 (by decide) (by omega) (by omega) (fun c16 => ?_) (fun c16 => ?_)
        · exact L51 _ (by rw [nr_s D1 e hk.1]; first | (rw [if_pos (by omega)]; done) | (rw [if_neg (by omega)]; exact hy))
        · refine j_aload_n C dX6_nearest_19 rfl ?_
          refine j_get C 0 0 19 rfl rfl rfl wU_X6 (by decide) wF_X6_43 rfl dX6_nearest_20 ?_
          refine j_iload_n C dX6_nearest_23 rfl ?_
          refine j_iald C 2 0 rfl rfl dX6_nearest_24 (by decide) (by omega) (by omega) ?_
          refine j_iconst C dX6_nearest_25 ?_
          refine j_icmp_eq (tgt := 51) C dX6_nearest_26 (by decide) (by omega) (by omega) (by omega) (by omega) (fun c26 => ?_) (fun c26 => ?_)
          · exact L51 _ (by rw [nr_s D1 e hk.1]; first | (rw [if_pos (by omega)]; done) | (rw [if_neg (by omega)]; exact hy))
          · refine j_iload_n C dX6_nearest_29 rfl ?_
            refine j_iconst C dX6_nearest_30 ?_
            refine j_icmp_eq (tgt := 49) C dX6_nearest_31 (by decide) (by omega) (by omega) (by omega) (by omega) (fun c31 => ?_) (fun c31 => ?_)
            · exact L49 (by omega)
            · have hy0 : 0 ≤ y ∧ y < 7 := by omega
              have hFy := hF y hy0.1 hy0.2
              have hDy := hDb y hy0.1 hy0.2
              have hFy2 : F1 y = D1 y := by unfold fD at hFy; rw [if_neg (by omega)] at hFy; exact hFy
              refine j_aload_n C dX6_nearest_34 rfl ?_
              refine j_get C 0 0 19 rfl rfl rfl wU_X6 (by decide) wF_X6_43 rfl dX6_nearest_35 ?_
              refine j_iload_n C dX6_nearest_38 rfl ?_
              refine j_iald C 2 0 rfl rfl dX6_nearest_39 (by decide) (by omega) (by omega) ?_
              refine j_aload_n C dX6_nearest_40 rfl ?_
              refine j_get C 0 0 19 rfl rfl rfl wU_X6 (by decide) wF_X6_43 rfl dX6_nearest_41 ?_
              refine j_iload_n C dX6_nearest_44 rfl ?_
              refine j_iald C 2 0 rfl rfl dX6_nearest_45 (by decide) (by omega) (by omega) ?_
              refine j_icmp_ge (tgt := 51) C dX6_nearest_46 (by decide) (by omega) (by omega) (by omega) (by omega) (fun c46 => ?_) (fun c46 => ?_)
              · exact L51 _ (by rw [nr_s D1 e hk.1]; first | (rw [if_pos (by omega)]; done) | (rw [if_neg (by omega)]; exact hy))
              · exact L49 (by omega)
  exact L4 _ _ _ (by omega) (by rfl) (Nat.lt_succ_self _)
set_option maxHeartbeats 800000 in
set_option maxRecDepth 100000 in
theorem c_X6_ahead (l : Launch) (D : va_G) (cA : Nat → ClassId) (a : Nat → Nat) (G M S : Int → Int) (v : Int) (hI : Inv S) (hA : Ag S M) (hv : 0 ≤ v / 2 ∧ v / 2 < S 1) : MI (U := Unit) l yX6_ahead cX6_ahead 2 (some .int) (rmN 2 0 0) D cA [.ref (a 0), .int (iI v)] [mO a G, [(a 1, aJ (cA 0) 325 M)]] (fun x _ => x = ahd S v) (fun _ => [mO a G, [(a 1, aJ (cA 0) 325 M)]]) := by
  refine m_startI pn_X6 rfl (List.forall_mem_cons.mpr ⟨rfl, List.forall_mem_cons.mpr ⟨rfl, fun _ h => absurd h List.not_mem_nil⟩⟩) (Nat.le_of_ble_eq_true rfl) ?_
  intro K C e1 e2 e3 hin hR
  subst e1 e2 e3
  have hN := hI.2.1
  have e := Ag_c hA hv.1 hv.2
  show J K 0 0 [mO a G, [(a 1, aJ ((kC K) 0) 325 M)]] [some (.ref (a 0)), some (.int (iI v))] 0 []
  refine j_aload_n C dX6_ahead_0 rfl ?_
  have L18 : ∀ (w : Int) (hw : (w = 0 ∧ v % 2 = 0) ∨ (w = 1 ∧ v % 2 ≠ 0)), J K 0 0 [mO a G, [(a 1, aJ ((kC K) 0) 325 M)]] [some (.ref (a 0)), some (.int (iI v))] 18 [.int (iI w), .int (iI (v / 2)), .ref (a 1)] := by
    intro w hw
    refine j_perm (pm_2 _ _) ?_
    refine j_callSi C (As := [.int (iI _), .int (iI _)]) (c_X6_p _ _ _ _ _ ) 2 nf_X6_p.2 wL_X6_79 wS_X6_p wIn_X6 wC_X6_p rfl rfl (by decide) dX6_ahead_18 (Nat.le_of_ble_eq_true rfl) ⟨Nat.le_of_ble_eq_true rfl, Nat.le_of_ble_eq_true rfl⟩ (fun x18 u18 h18 => ?_)
    refine j_perm (pr_2 _ _) ?_
    subst h18
    refine j_iald C 1 0 rfl rfl dX6_ahead_21 (by decide) (by omega) (by omega) ?_
    refine hR () dX6_ahead_22 ?_ rfl (Nat.le_of_ble_eq_true rfl) (Nat.le_of_ble_eq_true rfl)
    unfold ahd
    rcases hw with ⟨rfl, q⟩ | ⟨rfl, q⟩
    · rw [if_pos q]; exact e.1
    · rw [if_neg q]; exact e.2.1
  refine j_get C 0 0 0 rfl rfl rfl wU_X6 (by decide) wF_X6_7 rfl dX6_ahead_1 ?_
  refine j_iload_n C dX6_ahead_4 rfl ?_
  refine j_iconst C dX6_ahead_5 ?_
  refine j_idiv C dX6_ahead_6 (by omega) (by omega) (by omega) (by omega) ?_
  refine j_iload_n C dX6_ahead_7 rfl ?_
  refine j_iconst C dX6_ahead_8 ?_
  refine j_irem C dX6_ahead_9 (by omega) (by omega) (by omega) (by omega) ?_
  refine j_if_ne (tgt := 17) C dX6_ahead_10 (by decide) (by omega) (by omega) (fun c10 => ?_) (fun c10 => ?_)
  · refine j_iconst C dX6_ahead_17 ?_
    exact L18 _ (by omega)
  · refine j_iconst C dX6_ahead_13 ?_
    refine j_goto (tgt := 18) C dX6_ahead_14 (by decide) ?_
    exact L18 _ (by omega)
