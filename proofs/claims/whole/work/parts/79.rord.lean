/-! the reference: an order read -/
def GS (n : Int) (G0 u : Int → Int) : Prop := u 1 = n ∧ (0 ≤ u 8 ∧ u 8 ≤ n) ∧ (-1 ≤ u 9 ∧ u 9 ≤ 1000) ∧ ∀ j : Int, j < 8 ∨ j = 11 → u j = G0 j
theorem DGr_8 {t G0 g u : Int → Int} {n lo hi : Int} (hb : TX t n) (hg : GS n G0 g) (h : DGr t g lo hi u) (hlo : 0 ≤ lo) : GS n G0 u := by
  obtain ⟨e1, e8, e9, ek⟩ := hg
  have hb1 := hb.1
  refine ⟨(h.1 1 (by omega) (by omega) (by omega)).trans e1, ?_, ?_, fun j hj => (h.1 j (by omega) (by omega) (by omega)).trans (ek j hj)⟩
  · rcases h.2 with q | q | q
    · have := pk_inn (show pk t (g 1) (g 8) ≠ -1 by omega)
      omega
    · omega
    · omega
  · rcases h.2 with q | q | q <;> omega
theorem SGr_8 {t G0 g u : Int → Int} {n w : Int} (hb : TX t n) (hg : GS n G0 g) (h : SGr t g w u) (hw : 0 ≤ w) : GS n G0 u := by
  obtain ⟨e1, e8, e9, ek⟩ := hg
  have hb1 := hb.1
  refine ⟨(h.1 1 (by omega) (by omega) (by omega)).trans e1, ?_, ?_, fun j hj => (h.1 j (by omega) (by omega) (by omega)).trans (ek j hj)⟩
  · rcases h.2 with q | q | q
    · have := pk_inn (show pk t (g 1) (g 8) ≠ -1 by omega)
      omega
    · omega
    · omega
  · rcases h.2 with q | q | q <;> omega
theorem NGr_8 {t G0 g u : Int → Int} {n lo hi : Int} {d : Nat} (hb : TX t n) (hg : GS n G0 g) (h : NGr t g d lo hi u) (hd : d ≤ 4) : GS n G0 u := by
  obtain ⟨e1, e8, e9, ek⟩ := hg
  have hb1 := hb.1
  have hE := fE_bd t (g 1) d lo hi (g 8) e8.1
  have hK := fK_n (t := t) (n := g 1) d (g 8) e8.1 (by omega)
  have hK0 := fK_bd t (g 1) d (g 8)
  refine ⟨(h.1 1 (by omega) (by omega) (by omega)).trans e1, ?_, ?_, fun j hj => (h.1 j (by omega) (by omega) (by omega)).trans (ek j hj)⟩
  · rcases h.2 with q | q | q
    · have := q.2.2.2.1
      omega
    · have := q.2.2.1
      omega
    · omega
  · rcases h.2 with q | q | q
    · omega
    · omega
    · omega
theorem p_case {t g0 g1 g2 g3 g4 g5 g6 : Int → Int} {a n : Int} (ha : 0 ≤ a) (e1 : g0 1 = n) (e8 : g0 8 = a + 1) (e9 : g0 9 = -1) (h1 : DGr t g0 0 6 g1) (h2 : DGr t g1 0 6 g2) (h3 : SGr t g2 58 g3) (h4 : NGr t g3 4 1 1000 g4) (h5 : SGr t g4 44 g5) (h6 : DGr t g5 1 9 g6) (hp : pk t n a = 112) :
    (g6 9 = -1 ∧ ordE t n a = (if pk t n (g6 8) ≠ 59 then g6 8 else -1) ∧ ordN t n a = g6 8 + 1 ∧ (g1 10 = pk t n (a + 1) - 48 ∧ 0 ≤ g1 10 ∧ g1 10 ≤ 6) ∧ (g2 10 = pk t n (a + 2) - 48 ∧ 0 ≤ g2 10 ∧ g2 10 ≤ 6) ∧ (g4 10 = fV t n 4 (a + 4) 0 ∧ 1 ≤ g4 10 ∧ g4 10 ≤ 1000) ∧ (g6 10 = pk t n (a + 4 + fK t n 4 (a + 4) + 1) - 48 ∧ 1 ≤ g6 10 ∧ g6 10 ≤ 9)) ∨ (g6 9 ≠ -1 ∧ ordE t n a = g6 9) := by
  unfold ordE ordN
  rw [if_pos hp, if_pos hp]
  unfold prE
  have n1 : g1 1 = n := (h1.1 1 (by omega) (by omega) (by omega)).trans e1
  have n2 : g2 1 = n := (h2.1 1 (by omega) (by omega) (by omega)).trans n1
  have n3 : g3 1 = n := (h3.1 1 (by omega) (by omega) (by omega)).trans n2
  have n4 : g4 1 = n := (h4.1 1 (by omega) (by omega) (by omega)).trans n3
  have n5 : g5 1 = n := (h5.1 1 (by omega) (by omega) (by omega)).trans n4
  have d1 := h1.2
  rw [e1, e8, e9] at d1
  rcases d1 with ⟨-, c1, v1, p1, w1⟩ | ⟨-, c1, p1, w1⟩ | ⟨c1, -⟩
  · rw [if_neg (by omega)]
    have d2 := h2.2
    rw [n1, p1, w1, show a + 1 + 1 = a + 2 by omega] at d2
    rcases d2 with ⟨-, c2, v2, p2, w2⟩ | ⟨-, c2, p2, w2⟩ | ⟨c2, -⟩
    · rw [if_neg (by omega)]
      have d3 := h3.2
      rw [n2, p2, w2, show a + 2 + 1 = a + 3 by omega] at d3
      rcases d3 with ⟨-, c3, p3, w3⟩ | ⟨-, c3, p3, w3⟩ | ⟨c3, -⟩
      · rw [if_neg (by omega)]
        have d4 := h4.2
        rw [n3, p3, w3, show a + 3 + 1 = a + 4 by omega] at d4
        rcases d4 with ⟨-, c4, v4, p4, w4, b4, b5⟩ | ⟨-, c4, p4, w4⟩ | ⟨c4, -⟩
        · rw [if_neg (by omega)]
          unfold prE2
          have d5 := h5.2
          rw [n4, p4, w4] at d5
          rcases d5 with ⟨-, c5, p5, w5⟩ | ⟨-, c5, p5, w5⟩ | ⟨c5, -⟩
          · rw [if_neg (by omega)]
            have d6 := h6.2
            rw [n5, p5, w5] at d6
            rcases d6 with ⟨-, c6, v6, p6, w6⟩ | ⟨-, c6, p6, w6⟩ | ⟨c6, -⟩
            · left
              rw [if_neg (by omega), p6]
              refine ⟨w6, by rw [show a + 4 + fK t n 4 (a + 4) + 1 + 1 = a + 4 + fK t n 4 (a + 4) + 2 by omega], by omega, ⟨v1, by omega⟩, ⟨v2, by omega⟩, ⟨v4, by omega⟩, ⟨v6, by omega⟩⟩
            · right
              exact ⟨by have := fK_bd t n 4 (a + 4); omega, by rw [if_pos (by omega)]; omega⟩
            · exact absurd rfl c6
          · have b6 := DGr_bad h6 (by have := fK_bd t n 4 (a + 4); omega)
            right
            exact ⟨by have := fK_bd t n 4 (a + 4); omega, by rw [if_pos (by omega)]; omega⟩
          · exact absurd rfl c5
        · have b5 := SGr_bad h5 (by omega)
          have b6 := DGr_bad h6 (by omega)
          right
          exact ⟨by omega, by rw [if_pos c4]; omega⟩
        · exact absurd rfl c4
      · have b4 := NGr_bad h4 (by omega)
        have b5 := SGr_bad h5 (by omega)
        have b6 := DGr_bad h6 (by omega)
        right
        exact ⟨by omega, by rw [if_pos (by omega)]; omega⟩
      · exact absurd rfl c3
    · have b3 := SGr_bad h3 (by omega)
      have b4 := NGr_bad h4 (by omega)
      have b5 := SGr_bad h5 (by omega)
      have b6 := DGr_bad h6 (by omega)
      right
      exact ⟨by omega, by rw [if_pos (by omega)]; omega⟩
    · exact absurd rfl c2
  · have b2 := DGr_bad h2 (by omega)
    have b3 := SGr_bad h3 (by omega)
    have b4 := NGr_bad h4 (by omega)
    have b5 := SGr_bad h5 (by omega)
    have b6 := DGr_bad h6 (by omega)
    right
    exact ⟨by omega, by rw [if_pos (by omega)]; omega⟩
  · exact absurd rfl c1
theorem x_case {t g0 g1 : Int → Int} {a n : Int} (ha : 0 ≤ a) (e1 : g0 1 = n) (e8 : g0 8 = a + 1) (e9 : g0 9 = -1) (h1 : NGr t g0 2 0 99 g1) (hp : pk t n a = 120 ∨ pk t n a = 121) :
    (g1 9 = -1 ∧ ordE t n a = (if pk t n (g1 8) ≠ 59 then g1 8 else -1) ∧ ordN t n a = g1 8 + 1 ∧ g1 10 = fV t n 2 (a + 1) 0 ∧ 0 ≤ g1 10 ∧ g1 10 ≤ 99) ∨ (g1 9 ≠ -1 ∧ ordE t n a = g1 9) := by
  unfold ordE ordN
  have hne : ¬ pk t n a = 112 := by omega
  rw [if_neg hne, if_pos hp, if_neg hne, if_pos hp]
  unfold nuE
  have d4 := h1.2
  rw [e1, e8, e9] at d4
  rcases d4 with ⟨-, c4, v4, p4, w4, b4, b5⟩ | ⟨-, c4, p4, w4⟩ | ⟨c4, -⟩
  · left
    rw [if_neg (by omega), p4]
    exact ⟨w4, rfl, rfl, v4, b4, b5⟩
  · right
    exact ⟨by omega, by rw [if_pos c4]; omega⟩
  · exact absurd rfl c4
/-- the fields of an order that was read at a -/
def FLD (t : Int → Int) (n a : Int) (F Q A R : Int → Int) (k : Int) : Prop := (pk t n a = 112 → (F k = pk t n (a + 1) - 48 ∧ 0 ≤ F k ∧ F k ≤ 6) ∧ (Q k = pk t n (a + 2) - 48 ∧ 0 ≤ Q k ∧ Q k ≤ 6) ∧ (A k = fV t n 4 (a + 4) 0 ∧ 1 ≤ A k ∧ A k ≤ 1000) ∧ (R k = pk t n (a + 4 + fK t n 4 (a + 4) + 1) - 48 ∧ 1 ≤ R k ∧ R k ≤ 9)) ∧ (pk t n a = 120 ∨ pk t n a = 121 → F k = fV t n 2 (a + 1) 0 ∧ 0 ≤ F k ∧ F k ≤ 99) ∧ (pk t n a = 97 ∨ pk t n a = 98 ∨ pk t n a = 112 ∨ pk t n a = 120 ∨ pk t n a = 121)
def HCS (t : Int → Int) (n a : Int) (G2 F Q A R : Int → Int) (k : Int) : Prop := (G2 9 = -1 ∧ ordE t n a = (if pk t n (G2 8) ≠ 59 then G2 8 else -1) ∧ ordN t n a = G2 8 + 1 ∧ FLD t n a F Q A R k) ∨ (G2 9 ≠ -1 ∧ ordE t n a = G2 9)
set_option maxHeartbeats 800000 in
set_option maxRecDepth 100000 in
theorem c_X6_readsOrder (l : Launch) (D : va_G) (cA : Nat → ClassId) (a : Nat → Nat) (G t W F Q A R : Int → Int) (hb : TX t (G 1)) (h8 : 0 ≤ G 8 ∧ G 8 < G 1) (h9 : G 9 = -1) (hk : 0 ≤ G 11 ∧ 2 * G 11 ≤ G 8) : MV (U := (Int → Int) × (Int → Int) × (Int → Int) × (Int → Int) × (Int → Int) × (Int → Int)) l yX6_readsOrder cX6_readsOrder 2 none (rmN 3 0 0) D cA [.ref (a 0)] [mO a G, [(a 4, aJ (cA 0) 100 t)], [(a 14, aJ (cA 0) 50 W)], [(a 15, aJ (cA 0) 50 F)], [(a 16, aJ (cA 0) 50 Q)], [(a 17, aJ (cA 0) 50 A)], [(a 18, aJ (cA 0) 50 R)]] (fun u => (∀ j : Int, j < 8 → u.1 j = G j) ∧ (∀ j : Int, j ≠ G 11 → u.2.1 j = W j ∧ u.2.2.1 j = F j ∧ u.2.2.2.1 j = Q j ∧ u.2.2.2.2.1 j = A j ∧ u.2.2.2.2.2 j = R j) ∧ ((ordE t (G 1) (G 8) = -1 ∧ u.1 9 = -1 ∧ (u.1 8 = ordN t (G 1) (G 8) ∧ u.1 8 ≤ G 1) ∧ u.1 11 = G 11 + 1 ∧ u.2.1 (G 11) = pk t (G 1) (G 8) ∧ FLD t (G 1) (G 8) u.2.2.1 u.2.2.2.1 u.2.2.2.2.1 u.2.2.2.2.2 (G 11)) ∨ (ordE t (G 1) (G 8) ≠ -1 ∧ u.1 9 = ordE t (G 1) (G 8)))) (fun u => [mO a u.1, [(a 4, aJ (cA 0) 100 t)], [(a 14, aJ (cA 0) 50 u.2.1)], [(a 15, aJ (cA 0) 50 u.2.2.1)], [(a 16, aJ (cA 0) 50 u.2.2.2.1)], [(a 17, aJ (cA 0) 50 u.2.2.2.2.1)], [(a 18, aJ (cA 0) 50 u.2.2.2.2.2)]]) := by
  refine m_startV pn_X6 rfl (List.forall_mem_cons.mpr ⟨rfl, fun _ h => absurd h List.not_mem_nil⟩) (Nat.le_of_ble_eq_true rfl) ?_
  intro K C e1 e2 e3 hin hR
  subst e1 e2 e3
  have hb1 := hb.1
  have hpb := pk_bd hb (G 8)
  have ez8 : (st G 8 (G 8 + 1)) 8 = G 8 + 1 := st_s _ _ _
  have ez9 : (st G 8 (G 8 + 1)) 9 = -1 := (st_n (by omega)).trans h9
  have ez1 : (st G 8 (G 8 + 1)) 1 = G 1 := st_n (by omega)
  have gz : GS (G 1) G (st G 8 (G 8 + 1)) := ⟨ez1, by rw [ez8]; omega, by rw [ez9]; omega, fun j hj => st_n (by omega)⟩
  have kz : (st G 8 (G 8 + 1)) 11 = G 11 := st_n (by omega)
  show J K 0 0 [mO a G, [(a 4, aJ ((kC K) 0) 100 t)], [(a 14, aJ ((kC K) 0) 50 W)], [(a 15, aJ ((kC K) 0) 50 F)], [(a 16, aJ ((kC K) 0) 50 Q)], [(a 17, aJ ((kC K) 0) 50 A)], [(a 18, aJ ((kC K) 0) 50 R)]] [some (.ref (a 0)), none] 0 []
  refine j_aload_n C dX6_readsOrder_0 rfl ?_
  refine j_perm (pm_7_0_1 _ _ _ _ _ _ _) ?_
  refine j_callVi C (As := []) (c_X6_look _ _ _ _ _ _ (by first | assumption | omega) (by omega)) 0 nf_X6_look (jb := 0) rfl rfl wL_X6_216 wI_X6_look wSe_X6_X6_look wIn_X6 wC_X6_look rfl rfl (by decide) dX6_readsOrder_1 (Nat.le_of_ble_eq_true rfl) ⟨Nat.le_of_ble_eq_true rfl, Nat.le_of_ble_eq_true rfl⟩ (fun x1 u1 h1 => ?_)
  refine j_perm (pr_7_0_1 _ _ _ _ _ _ _) ?_
  subst h1
  refine j_istn_1 C dX6_readsOrder_4 rfl ?_
  refine j_aload_n C dX6_readsOrder_5 rfl ?_
  refine j_dup C dX6_readsOrder_6 rfl ?_
  refine j_get C 0 0 21 rfl rfl rfl wU_X6 (by decide) wF_X6_210 rfl dX6_readsOrder_7 ?_
  refine j_iconst C dX6_readsOrder_10 ?_
  refine j_iadd C dX6_readsOrder_11 ?_
  refine j_put_p0 C 0 21 rfl mO_put8 rfl wU_X6 tyX6_ok nmX6 (by decide) wF_X6_210 rfl rfl rfl (Nat.le_of_ble_eq_true rfl) dX6_readsOrder_12 ?_
  refine j_iload_n C dX6_readsOrder_15 rfl ?_
  have L202 : ∀ (G2 F2 Q2 A2 R2 : Int → Int) (hg2 : GS (G 1) G G2) (hK : ∀ j : Int, j ≠ G 11 → F2 j = F j ∧ Q2 j = Q j ∧ A2 j = A j ∧ R2 j = R j) (hcs : HCS t (G 1) (G 8) G2 F2 Q2 A2 R2 (G 11)), J K 0 0 [mO a G2, [(a 4, aJ ((kC K) 0) 100 t)], [(a 14, aJ ((kC K) 0) 50 W)], [(a 15, aJ ((kC K) 0) 50 F2)], [(a 16, aJ ((kC K) 0) 50 Q2)], [(a 17, aJ ((kC K) 0) 50 A2)], [(a 18, aJ ((kC K) 0) 50 R2)]] [some (.ref (a 0)), some (.int (iI (pk t (G 1) (G 8))))] 202 [] := by
    intro G2 F2 Q2 A2 R2 hg2 hK hcs
    refine j_aload_n C dX6_readsOrder_202 rfl ?_
    refine j_bipush C dX6_readsOrder_203 (by decide) ?_
    refine j_perm (pm_7_0_1 _ _ _ _ _ _ _) ?_
    refine j_callVv C (As := [.int (iI _)]) (c_X6_sign _ _ _ _ _ _ _ (by rw [hg2.1]; exact hb) (by rw [hg2.1]; exact hg2.2.1) (by exact hg2.2.2.1) (by first | assumption | omega)) 1 nf_X6_sign (jb := 0) rfl rfl wL_X6_232 wI_X6_sign wSe_X6_X6_sign wIn_X6 wC_X6_sign rfl rfl (by decide) dX6_readsOrder_205 (Nat.le_of_ble_eq_true rfl) ⟨Nat.le_of_ble_eq_true rfl, Nat.le_of_ble_eq_true rfl⟩ (fun u205 h205 => ?_)
    refine j_perm (pr_7_0_1 _ _ _ _ _ _ _) ?_
    have g205 := SGr_8 hb hg2 h205 (by omega)
    have k205 : u205 11 = G 11 := g205.2.2.2 11 (by omega)
    have hs := h205.2
    rw [hg2.1] at hs
    have b205 := g205.2.2.1
    have L236 : ∀ (G9 W9 : Int → Int) (h9z : (∀ j : Int, j < 8 → G9 j = G j) ∧ (∀ j : Int, j ≠ G 11 → W9 j = W j ∧ F2 j = F j ∧ Q2 j = Q j ∧ A2 j = A j ∧ R2 j = R j) ∧ ((ordE t (G 1) (G 8) = -1 ∧ G9 9 = -1 ∧ (G9 8 = ordN t (G 1) (G 8) ∧ G9 8 ≤ G 1) ∧ G9 11 = G 11 + 1 ∧ W9 (G 11) = pk t (G 1) (G 8) ∧ FLD t (G 1) (G 8) F2 Q2 A2 R2 (G 11)) ∨ (ordE t (G 1) (G 8) ≠ -1 ∧ G9 9 = ordE t (G 1) (G 8)))), J K 0 0 [mO a G9, [(a 4, aJ ((kC K) 0) 100 t)], [(a 14, aJ ((kC K) 0) 50 W9)], [(a 15, aJ ((kC K) 0) 50 F2)], [(a 16, aJ ((kC K) 0) 50 Q2)], [(a 17, aJ ((kC K) 0) 50 A2)], [(a 18, aJ ((kC K) 0) 50 R2)]] [some (.ref (a 0)), some (.int (iI (pk t (G 1) (G 8))))] 236 [] := by
      intro G9 W9 h9z
      exact hR (G9, W9, F2, Q2, A2, R2) dX6_readsOrder_236 (by exact h9z) rfl (Nat.le_of_ble_eq_true rfl) (Nat.le_of_ble_eq_true rfl)
    refine j_aload_n C dX6_readsOrder_208 rfl ?_
    refine j_get C 0 0 22 rfl rfl rfl wU_X6 (by decide) wF_X6_213 rfl dX6_readsOrder_209 ?_
    refine j_iconst C dX6_readsOrder_212 ?_
    refine j_icmp_ne (tgt := 236) C dX6_readsOrder_213 (by decide) (by omega) (by omega) (by omega) (by omega) (fun c213 => ?_) (fun c213 => ?_)
    · exact L236 _ _ (by refine ⟨fun j hj => g205.2.2.2 j (Or.inl hj), fun j hj => ⟨rfl, hK j hj⟩, ?_⟩; right; rcases hcs with ⟨w1, w2, w3, w4⟩ | ⟨w1, w2⟩; (rcases hs with z | z | z; omega; (have := hg2.2.1; rw [w2, if_pos (by omega)]; exact ⟨by omega, by omega⟩); omega); (rcases hs with z | z | z; omega; omega; exact ⟨by omega, by omega⟩))
    · refine j_aload_n C dX6_readsOrder_216 rfl ?_
      refine j_get C 0 0 25 rfl rfl rfl wU_X6 (by decide) wF_X6_49 rfl dX6_readsOrder_217 ?_
      refine j_aload_n C dX6_readsOrder_220 rfl ?_
      refine j_get C 0 0 24 rfl rfl rfl wU_X6 (by decide) wF_X6_229 rfl dX6_readsOrder_221 ?_
      refine j_iload_n C dX6_readsOrder_224 rfl ?_
      refine j_iast_p2 C 0 rfl ar1_ast dX6_readsOrder_225 (by decide) (by omega) (by omega) ?_
      refine j_aload_n C dX6_readsOrder_226 rfl ?_
      refine j_dup C dX6_readsOrder_227 rfl ?_
      refine j_get C 0 0 24 rfl rfl rfl wU_X6 (by decide) wF_X6_229 rfl dX6_readsOrder_228 ?_
      refine j_iconst C dX6_readsOrder_231 ?_
      refine j_iadd C dX6_readsOrder_232 ?_
      refine j_put_p0 C 0 24 rfl mO_put11 rfl wU_X6 tyX6_ok nmX6 (by decide) wF_X6_229 rfl rfl rfl (Nat.le_of_ble_eq_true rfl) dX6_readsOrder_233 ?_
      exact L236 _ _ (by refine ⟨fun j hj => (st_n (by omega)).trans (g205.2.2.2 j (Or.inl hj)), fun j hj => ⟨st_n (by rw [k205]; exact hj), hK j hj⟩, ?_⟩; rcases hcs with ⟨w1, w2, w3, w4⟩ | ⟨w1, w2⟩; (rcases hs with z | z | z; (left; refine ⟨by rw [w2, if_neg (by omega)], by rw [st_n (by omega)]; exact z.2.2.2, ⟨by rw [st_n (by omega)]; omega, by rw [st_n (by omega)]; exact g205.2.1.2⟩, by rw [st_s, k205], by rw [k205]; exact st_s _ _ _, w4⟩); (have := hg2.2.1; omega); omega); (rcases hs with z | z | z <;> omega))
  by_cases q16_97 : pk t (G 1) (G 8) = 97
  · refine j_lookup (tgt := 189) (v := 97) C dX6_readsOrder_16 q16_97 (by decide) (by decide) (by decide) rfl (by decide) ?_
    refine j_goto (tgt := 202) C dX6_readsOrder_189 (by decide) ?_
    exact L202 _ _ _ _ _ (by exact gz) (by exact fun j hj => ⟨rfl, rfl, rfl, rfl⟩) (by refine Or.inl ⟨ez9, ?_, ?_, fun q => by omega, fun q => by omega, by omega⟩; (unfold ordE; rw [if_neg (by omega), if_neg (by omega), if_pos (by omega), ez8]); (unfold ordN; rw [if_neg (by omega), if_neg (by omega), ez8]; omega))
  by_cases q16_98 : pk t (G 1) (G 8) = 98
  · refine j_lookup (tgt := 189) (v := 98) C dX6_readsOrder_16 q16_98 (by decide) (by decide) (by decide) rfl (by decide) ?_
    refine j_goto (tgt := 202) C dX6_readsOrder_189 (by decide) ?_
    exact L202 _ _ _ _ _ (by exact gz) (by exact fun j hj => ⟨rfl, rfl, rfl, rfl⟩) (by refine Or.inl ⟨ez9, ?_, ?_, fun q => by omega, fun q => by omega, by omega⟩; (unfold ordE; rw [if_neg (by omega), if_neg (by omega), if_pos (by omega), ez8]); (unfold ordN; rw [if_neg (by omega), if_neg (by omega), ez8]; omega))
  by_cases q16_112 : pk t (G 1) (G 8) = 112
  · refine j_lookup (tgt := 68) (v := 112) C dX6_readsOrder_16 q16_112 (by decide) (by decide) (by decide) rfl (by decide) ?_
    refine j_aload_n C dX6_readsOrder_68 rfl ?_
    refine j_iconst C dX6_readsOrder_69 ?_
    refine j_bipush C dX6_readsOrder_70 (by decide) ?_
    refine j_perm (pm_7_0_1 _ _ _ _ _ _ _) ?_
    refine j_callVv C (As := [.int (iI _), .int (iI _)]) (c_X6_digit _ _ _ _ _ _ _ _ (by rw [gz.1]; exact hb) (by rw [gz.1]; exact gz.2.1) (by exact gz.2.2.1) (by first | assumption | omega) (by first | assumption | omega)) 2 nf_X6_digit (jb := 0) rfl rfl wL_X6_225 wI_X6_digit wSe_X6_X6_digit wIn_X6 wC_X6_digit rfl rfl (by decide) dX6_readsOrder_72 (Nat.le_of_ble_eq_true rfl) ⟨Nat.le_of_ble_eq_true rfl, Nat.le_of_ble_eq_true rfl⟩ (fun u72 h72 => ?_)
    refine j_perm (pr_7_0_1 _ _ _ _ _ _ _) ?_
    have g72 := DGr_8 hb gz h72 (by omega)
    have k72 : u72 11 = G 11 := g72.2.2.2 11 (by omega)
    refine j_aload_n C dX6_readsOrder_75 rfl ?_
    refine j_get C 0 0 26 rfl rfl rfl wU_X6 (by decide) wF_X6_52 rfl dX6_readsOrder_76 ?_
    refine j_aload_n C dX6_readsOrder_79 rfl ?_
    refine j_get C 0 0 24 rfl rfl rfl wU_X6 (by decide) wF_X6_229 rfl dX6_readsOrder_80 ?_
    refine j_aload_n C dX6_readsOrder_83 rfl ?_
    refine j_get C 0 0 23 rfl rfl rfl wU_X6 (by decide) wF_X6_222 rfl dX6_readsOrder_84 ?_
    refine j_iast_p3 C 0 rfl ar1_ast dX6_readsOrder_87 (by decide) (by omega) (by omega) ?_
    refine j_aload_n C dX6_readsOrder_88 rfl ?_
    refine j_iconst C dX6_readsOrder_89 ?_
    refine j_bipush C dX6_readsOrder_90 (by decide) ?_
    refine j_perm (pm_7_0_1 _ _ _ _ _ _ _) ?_
    refine j_callVv C (As := [.int (iI _), .int (iI _)]) (c_X6_digit _ _ _ _ _ _ _ _ (by rw [g72.1]; exact hb) (by rw [g72.1]; exact g72.2.1) (by exact g72.2.2.1) (by first | assumption | omega) (by first | assumption | omega)) 2 nf_X6_digit (jb := 0) rfl rfl wL_X6_225 wI_X6_digit wSe_X6_X6_digit wIn_X6 wC_X6_digit rfl rfl (by decide) dX6_readsOrder_92 (Nat.le_of_ble_eq_true rfl) ⟨Nat.le_of_ble_eq_true rfl, Nat.le_of_ble_eq_true rfl⟩ (fun u92 h92 => ?_)
    refine j_perm (pr_7_0_1 _ _ _ _ _ _ _) ?_
    have g92 := DGr_8 hb g72 h92 (by omega)
    have k92 : u92 11 = G 11 := g92.2.2.2 11 (by omega)
    refine j_aload_n C dX6_readsOrder_95 rfl ?_
    refine j_get C 0 0 27 rfl rfl rfl wU_X6 (by decide) wF_X6_55 rfl dX6_readsOrder_96 ?_
    refine j_aload_n C dX6_readsOrder_99 rfl ?_
    refine j_get C 0 0 24 rfl rfl rfl wU_X6 (by decide) wF_X6_229 rfl dX6_readsOrder_100 ?_
    refine j_aload_n C dX6_readsOrder_103 rfl ?_
    refine j_get C 0 0 23 rfl rfl rfl wU_X6 (by decide) wF_X6_222 rfl dX6_readsOrder_104 ?_
    refine j_iast_p4 C 0 rfl ar1_ast dX6_readsOrder_107 (by decide) (by omega) (by omega) ?_
    refine j_aload_n C dX6_readsOrder_108 rfl ?_
    refine j_bipush C dX6_readsOrder_109 (by decide) ?_
    refine j_perm (pm_7_0_1 _ _ _ _ _ _ _) ?_
    refine j_callVv C (As := [.int (iI _)]) (c_X6_sign _ _ _ _ _ _ _ (by rw [g92.1]; exact hb) (by rw [g92.1]; exact g92.2.1) (by exact g92.2.2.1) (by first | assumption | omega)) 1 nf_X6_sign (jb := 0) rfl rfl wL_X6_232 wI_X6_sign wSe_X6_X6_sign wIn_X6 wC_X6_sign rfl rfl (by decide) dX6_readsOrder_111 (Nat.le_of_ble_eq_true rfl) ⟨Nat.le_of_ble_eq_true rfl, Nat.le_of_ble_eq_true rfl⟩ (fun u111 h111 => ?_)
    refine j_perm (pr_7_0_1 _ _ _ _ _ _ _) ?_
    have g111 := SGr_8 hb g92 h111 (by omega)
    have k111 : u111 11 = G 11 := g111.2.2.2 11 (by omega)
    refine j_aload_n C dX6_readsOrder_114 rfl ?_
    refine j_iconst C dX6_readsOrder_115 ?_
    refine j_iconst C dX6_readsOrder_116 ?_
    refine j_sipush C dX6_readsOrder_117 (by decide) ?_
    refine j_perm (pm_7_0_1 _ _ _ _ _ _ _) ?_
    refine j_callVv C (As := [.int (iI _), .int (iI _), .int (iI _)]) (c_X6_figures _ _ _ _ _ _ _ _ _ (by rw [g111.1]; exact hb) (by rw [g111.1]; exact g111.2.1) (by exact g111.2.2.1) (by first | assumption | omega) (by first | assumption | omega) (by first | assumption | omega)) 3 nf_X6_figures (jb := 0) rfl rfl wL_X6_235 wI_X6_figures wSe_X6_X6_figures wIn_X6 wC_X6_figures rfl rfl (by decide) dX6_readsOrder_120 (Nat.le_of_ble_eq_true rfl) ⟨Nat.le_of_ble_eq_true rfl, Nat.le_of_ble_eq_true rfl⟩ (fun u120 h120 => ?_)
    refine j_perm (pr_7_0_1 _ _ _ _ _ _ _) ?_
    have g120 := NGr_8 hb g111 h120 (by omega)
    have k120 : u120 11 = G 11 := g120.2.2.2 11 (by omega)
    refine j_aload_n C dX6_readsOrder_123 rfl ?_
    refine j_get C 0 0 28 rfl rfl rfl wU_X6 (by decide) wF_X6_58 rfl dX6_readsOrder_124 ?_
    refine j_aload_n C dX6_readsOrder_127 rfl ?_
    refine j_get C 0 0 24 rfl rfl rfl wU_X6 (by decide) wF_X6_229 rfl dX6_readsOrder_128 ?_
    refine j_aload_n C dX6_readsOrder_131 rfl ?_
    refine j_get C 0 0 23 rfl rfl rfl wU_X6 (by decide) wF_X6_222 rfl dX6_readsOrder_132 ?_
    refine j_iast_p5 C 0 rfl ar1_ast dX6_readsOrder_135 (by decide) (by omega) (by omega) ?_
    refine j_aload_n C dX6_readsOrder_136 rfl ?_
    refine j_bipush C dX6_readsOrder_137 (by decide) ?_
    refine j_perm (pm_7_0_1 _ _ _ _ _ _ _) ?_
    refine j_callVv C (As := [.int (iI _)]) (c_X6_sign _ _ _ _ _ _ _ (by rw [g120.1]; exact hb) (by rw [g120.1]; exact g120.2.1) (by exact g120.2.2.1) (by first | assumption | omega)) 1 nf_X6_sign (jb := 0) rfl rfl wL_X6_232 wI_X6_sign wSe_X6_X6_sign wIn_X6 wC_X6_sign rfl rfl (by decide) dX6_readsOrder_139 (Nat.le_of_ble_eq_true rfl) ⟨Nat.le_of_ble_eq_true rfl, Nat.le_of_ble_eq_true rfl⟩ (fun u139 h139 => ?_)
    refine j_perm (pr_7_0_1 _ _ _ _ _ _ _) ?_
    have g139 := SGr_8 hb g120 h139 (by omega)
    have k139 : u139 11 = G 11 := g139.2.2.2 11 (by omega)
    refine j_aload_n C dX6_readsOrder_142 rfl ?_
    refine j_iconst C dX6_readsOrder_143 ?_
    refine j_bipush C dX6_readsOrder_144 (by decide) ?_
    refine j_perm (pm_7_0_1 _ _ _ _ _ _ _) ?_
    refine j_callVv C (As := [.int (iI _), .int (iI _)]) (c_X6_digit _ _ _ _ _ _ _ _ (by rw [g139.1]; exact hb) (by rw [g139.1]; exact g139.2.1) (by exact g139.2.2.1) (by first | assumption | omega) (by first | assumption | omega)) 2 nf_X6_digit (jb := 0) rfl rfl wL_X6_225 wI_X6_digit wSe_X6_X6_digit wIn_X6 wC_X6_digit rfl rfl (by decide) dX6_readsOrder_146 (Nat.le_of_ble_eq_true rfl) ⟨Nat.le_of_ble_eq_true rfl, Nat.le_of_ble_eq_true rfl⟩ (fun u146 h146 => ?_)
    refine j_perm (pr_7_0_1 _ _ _ _ _ _ _) ?_
    have g146 := DGr_8 hb g139 h146 (by omega)
    have k146 : u146 11 = G 11 := g146.2.2.2 11 (by omega)
    refine j_aload_n C dX6_readsOrder_149 rfl ?_
    refine j_get C 0 0 29 rfl rfl rfl wU_X6 (by decide) wF_X6_61 rfl dX6_readsOrder_150 ?_
    refine j_aload_n C dX6_readsOrder_153 rfl ?_
    refine j_get C 0 0 24 rfl rfl rfl wU_X6 (by decide) wF_X6_229 rfl dX6_readsOrder_154 ?_
    refine j_aload_n C dX6_readsOrder_157 rfl ?_
    refine j_get C 0 0 23 rfl rfl rfl wU_X6 (by decide) wF_X6_222 rfl dX6_readsOrder_158 ?_
    refine j_iast_p6 C 0 rfl ar1_ast dX6_readsOrder_161 (by decide) (by omega) (by omega) ?_
    refine j_goto (tgt := 202) C dX6_readsOrder_162 (by decide) ?_
    exact L202 _ _ _ _ _ (by exact g146) (by intro j hj; rw [k72, k92, k120, k146]; exact ⟨st_n hj, st_n hj, st_n hj, st_n hj⟩) (by rcases p_case h8.1 ez1 ez8 ez9 h72 h92 h111 h120 h139 h146 q16_112 with z | z; (refine Or.inl ⟨z.1, z.2.1, z.2.2.1, fun _ => ?_, fun q => by omega, by omega⟩; rw [k72, k92, k120, k146, st_s, st_s, st_s, st_s]; exact z.2.2.2); exact Or.inr z)
  by_cases q16_120 : pk t (G 1) (G 8) = 120
  · refine j_lookup (tgt := 165) (v := 120) C dX6_readsOrder_16 q16_120 (by decide) (by decide) (by decide) rfl (by decide) ?_
    refine j_aload_n C dX6_readsOrder_165 rfl ?_
    refine j_iconst C dX6_readsOrder_166 ?_
    refine j_iconst C dX6_readsOrder_167 ?_
    refine j_bipush C dX6_readsOrder_168 (by decide) ?_
    refine j_perm (pm_7_0_1 _ _ _ _ _ _ _) ?_
    refine j_callVv C (As := [.int (iI _), .int (iI _), .int (iI _)]) (c_X6_figures _ _ _ _ _ _ _ _ _ (by rw [gz.1]; exact hb) (by rw [gz.1]; exact gz.2.1) (by exact gz.2.2.1) (by first | assumption | omega) (by first | assumption | omega) (by first | assumption | omega)) 3 nf_X6_figures (jb := 0) rfl rfl wL_X6_235 wI_X6_figures wSe_X6_X6_figures wIn_X6 wC_X6_figures rfl rfl (by decide) dX6_readsOrder_170 (Nat.le_of_ble_eq_true rfl) ⟨Nat.le_of_ble_eq_true rfl, Nat.le_of_ble_eq_true rfl⟩ (fun u170 h170 => ?_)
    refine j_perm (pr_7_0_1 _ _ _ _ _ _ _) ?_
    have g170 := NGr_8 hb gz h170 (by omega)
    have k170 : u170 11 = G 11 := g170.2.2.2 11 (by omega)
    refine j_aload_n C dX6_readsOrder_173 rfl ?_
    refine j_get C 0 0 26 rfl rfl rfl wU_X6 (by decide) wF_X6_52 rfl dX6_readsOrder_174 ?_
    refine j_aload_n C dX6_readsOrder_177 rfl ?_
    refine j_get C 0 0 24 rfl rfl rfl wU_X6 (by decide) wF_X6_229 rfl dX6_readsOrder_178 ?_
    refine j_aload_n C dX6_readsOrder_181 rfl ?_
    refine j_get C 0 0 23 rfl rfl rfl wU_X6 (by decide) wF_X6_222 rfl dX6_readsOrder_182 ?_
    refine j_iast_p3 C 0 rfl ar1_ast dX6_readsOrder_185 (by decide) (by omega) (by omega) ?_
    refine j_goto (tgt := 202) C dX6_readsOrder_186 (by decide) ?_
    exact L202 _ _ _ _ _ (by exact g170) (by intro j hj; rw [k170]; exact ⟨st_n hj, rfl, rfl, rfl⟩) (by rcases x_case h8.1 ez1 ez8 ez9 h170 (by omega) with z | z; (refine Or.inl ⟨z.1, z.2.1, z.2.2.1, fun q => by omega, fun _ => ?_, by omega⟩; rw [k170, st_s]; exact z.2.2.2); exact Or.inr z)
  by_cases q16_121 : pk t (G 1) (G 8) = 121
  · refine j_lookup (tgt := 165) (v := 121) C dX6_readsOrder_16 q16_121 (by decide) (by decide) (by decide) rfl (by decide) ?_
    refine j_aload_n C dX6_readsOrder_165 rfl ?_
    refine j_iconst C dX6_readsOrder_166 ?_
    refine j_iconst C dX6_readsOrder_167 ?_
    refine j_bipush C dX6_readsOrder_168 (by decide) ?_
    refine j_perm (pm_7_0_1 _ _ _ _ _ _ _) ?_
    refine j_callVv C (As := [.int (iI _), .int (iI _), .int (iI _)]) (c_X6_figures _ _ _ _ _ _ _ _ _ (by rw [gz.1]; exact hb) (by rw [gz.1]; exact gz.2.1) (by exact gz.2.2.1) (by first | assumption | omega) (by first | assumption | omega) (by first | assumption | omega)) 3 nf_X6_figures (jb := 0) rfl rfl wL_X6_235 wI_X6_figures wSe_X6_X6_figures wIn_X6 wC_X6_figures rfl rfl (by decide) dX6_readsOrder_170 (Nat.le_of_ble_eq_true rfl) ⟨Nat.le_of_ble_eq_true rfl, Nat.le_of_ble_eq_true rfl⟩ (fun u170 h170 => ?_)
    refine j_perm (pr_7_0_1 _ _ _ _ _ _ _) ?_
    have g170 := NGr_8 hb gz h170 (by omega)
    have k170 : u170 11 = G 11 := g170.2.2.2 11 (by omega)
    refine j_aload_n C dX6_readsOrder_173 rfl ?_
    refine j_get C 0 0 26 rfl rfl rfl wU_X6 (by decide) wF_X6_52 rfl dX6_readsOrder_174 ?_
    refine j_aload_n C dX6_readsOrder_177 rfl ?_
    refine j_get C 0 0 24 rfl rfl rfl wU_X6 (by decide) wF_X6_229 rfl dX6_readsOrder_178 ?_
    refine j_aload_n C dX6_readsOrder_181 rfl ?_
    refine j_get C 0 0 23 rfl rfl rfl wU_X6 (by decide) wF_X6_222 rfl dX6_readsOrder_182 ?_
    refine j_iast_p3 C 0 rfl ar1_ast dX6_readsOrder_185 (by decide) (by omega) (by omega) ?_
    refine j_goto (tgt := 202) C dX6_readsOrder_186 (by decide) ?_
    exact L202 _ _ _ _ _ (by exact g170) (by intro j hj; rw [k170]; exact ⟨st_n hj, rfl, rfl, rfl⟩) (by rcases x_case h8.1 ez1 ez8 ez9 h170 (by omega) with z | z; (refine Or.inl ⟨z.1, z.2.1, z.2.2.1, fun q => by omega, fun _ => ?_, by omega⟩; rw [k170, st_s]; exact z.2.2.2); exact Or.inr z)
  refine j_lookupD (tgt := 192) C dX6_readsOrder_16 (by omega) (by omega) (by decide) (by show (if (97 : Int) = _ then (173 : Int) else (if (98 : Int) = _ then (173 : Int) else (if (112 : Int) = _ then (52 : Int) else (if (120 : Int) = _ then (149 : Int) else (if (121 : Int) = _ then (149 : Int) else (176 : Int)))))) = _; omega) (by decide) ?_
  refine j_aload_n C dX6_readsOrder_192 rfl ?_
  refine j_aload_n C dX6_readsOrder_193 rfl ?_
  refine j_get C 0 0 21 rfl rfl rfl wU_X6 (by decide) wF_X6_210 rfl dX6_readsOrder_194 ?_
  refine j_iconst C dX6_readsOrder_197 ?_
  refine j_isub C dX6_readsOrder_198 ?_
  refine j_perm (pm_7_0 _ _ _ _ _ _ _) ?_
  refine j_callVv C (As := [.int (iI _)]) (c_X6_fails _ _ _ _ _ _ (by rw [ez9]; omega)) 1 nf_X6_fails (jb := 0) rfl rfl wL_X6_219 wI_X6_fails wSe_X6_X6_fails wIn_X6 wC_X6_fails rfl rfl (by decide) dX6_readsOrder_199 (Nat.le_of_ble_eq_true rfl) ⟨Nat.le_of_ble_eq_true rfl, Nat.le_of_ble_eq_true rfl⟩ (fun u199 h199 => ?_)
  refine j_perm (pr_7_0 _ _ _ _ _ _ _) ?_
  exact L202 _ _ _ _ _ (by refine ⟨(st_n (by omega)).trans ez1, by rw [st_n (by omega), ez8]; omega, by rw [st_s, if_pos ez9]; omega, fun j hj => (st_n (by omega)).trans (gz.2.2.2 j hj)⟩) (by exact fun j hj => ⟨rfl, rfl, rfl, rfl⟩) (by right; refine ⟨by rw [st_s, if_pos ez9]; omega, ?_⟩; unfold ordE; rw [if_neg (by omega), if_neg (by omega), if_neg (by omega), st_s, if_pos ez9]; omega)
