/-! the least cost: cheapest ways through promises that can stay more, or less -/
def FAR : Int := 1000000
def rch (a b c w : Int) (s : (Int → Int) × (Int → Int)) : (Int → Int) × (Int → Int) := if s.1 a ≠ FAR ∧ s.1 a + c < s.1 b then (st s.1 b (s.1 a + c), st s.2 b w) else s
def shr1 (S x : Int → Int) (k : Int) (s : (Int → Int) × (Int → Int)) : (Int → Int) × (Int → Int) := if x k < am S k then rch (fr S k) (tO S k) (ra S k) (2 * k) s else s
def shr2 (S x : Int → Int) (k : Int) (s : (Int → Int) × (Int → Int)) : (Int → Int) × (Int → Int) := if 0 < x k then rch (tO S k) (fr S k) (-ra S k) (2 * k + 1) s else s
/-- the first m promises looked at once -/
def rndN (S x : Int → Int) : Nat → (Int → Int) × (Int → Int) → (Int → Int) × (Int → Int)
  | 0, s => s
  | m + 1, s => if di S m = 0 ∧ 0 < am S m then shr2 S x m (shr1 S x m (rndN S x m s)) else rndN S x m s
def rnd (S x : Int → Int) (s : (Int → Int) × (Int → Int)) : (Int → Int) × (Int → Int) := rndN S x (S 1).toNat s
def rnds (S x : Int → Int) : Nat → (Int → Int) × (Int → Int) → (Int → Int) × (Int → Int)
  | 0, s => s
  | r + 1, s => rnd S x (rnds S x r s)
def ini (e : Int → Int) : (Int → Int) × (Int → Int) := (fun p => if 0 < e p then 0 else FAR, fun _ => -1)
def meas (S x e : Int → Int) : (Int → Int) × (Int → Int) := rnds S x 7 (ini e)
/-- an arc: from a to b at the cost c, by the way w -/
def ArcW (S x : Int → Int) (a b c w : Int) : Prop := ∃ k : Int, 0 ≤ k ∧ k < S 1 ∧ di S k = 0 ∧ ((x k < am S k ∧ a = fr S k ∧ b = tO S k ∧ c = ra S k ∧ w = 2 * k) ∨ (0 < x k ∧ a = tO S k ∧ b = fr S k ∧ c = -ra S k ∧ w = 2 * k + 1))
def XB (S x : Int → Int) : Prop := ∀ k : Int, 0 ≤ k → k < S 1 → 0 ≤ x k ∧ x k ≤ am S k ∧ (di S k ≠ 0 → x k = 0)
def Pot (S x e y : Int → Int) : Prop := (∀ p, 0 ≤ y p) ∧ (∀ p : Int, 0 ≤ p → p < 7 → 0 < e p → y p = 0) ∧ ∀ a b c w, ArcW S x a b c w → y b ≤ y a + c
theorem arc_facts {S x : Int → Int} (hI : Inv S) {a b c w : Int} (h : ArcW S x a b c w) : (0 ≤ a ∧ a < 7) ∧ (0 ≤ b ∧ b < 7) ∧ a ≠ b ∧ (-9 ≤ c ∧ c ≤ 9) ∧ 0 ≤ w ∧ w < 2 * S 1 := by
  obtain ⟨k, h0, h1, hd, h2⟩ := h
  have f := hI.2.2 k h0 h1
  have g := hI.1
  rcases h2 with h2 | h2 <;> omega
theorem arc_uniq {S x : Int → Int} {a b c a' b' c' w : Int} (h : ArcW S x a b c w) (h' : ArcW S x a' b' c' w) : a = a' ∧ b = b' ∧ c = c' := by
  obtain ⟨k, h0, h1, hd, h2⟩ := h
  obtain ⟨k', h0', h1', hd', h2'⟩ := h'
  rcases h2 with h2 | h2 <;> rcases h2' with h2' | h2'
  · have : k = k' := by omega
    subst this
    exact ⟨h2.2.1.trans h2'.2.1.symm, h2.2.2.1.trans h2'.2.2.1.symm, h2.2.2.2.1.trans h2'.2.2.2.1.symm⟩
  · omega
  · omega
  · have : k = k' := by omega
    subst this
    exact ⟨h2.2.1.trans h2'.2.1.symm, h2.2.2.1.trans h2'.2.2.1.symm, h2.2.2.2.1.trans h2'.2.2.2.1.symm⟩
def inL (j : Int) (l : List Int) : Nat := if j ∈ l then 1 else 0
theorem nd7 : ∀ (l : List Int), l.Nodup → (∀ y ∈ l, 0 ≤ y ∧ y < 7) → l.length = inL 0 l + inL 1 l + inL 2 l + inL 3 l + inL 4 l + inL 5 l + inL 6 l
  | [], _, _ => by simp [inL]
  | a :: t, hn, h => by
    have ha := h a List.mem_cons_self
    have hd := List.nodup_cons.mp hn
    have ih := nd7 t hd.2 (fun y hy => h y (List.mem_cons_of_mem _ hy))
    have e : ∀ j : Int, inL j (a :: t) = if j = a then 1 else inL j t := fun j => by
      unfold inL
      by_cases c : j = a
      · rw [if_pos c, if_pos (by rw [c]; exact List.mem_cons_self)]
      · rw [if_neg c]
        by_cases d : j ∈ t
        · rw [if_pos d, if_pos (List.mem_cons_of_mem _ d)]
        · rw [if_neg d, if_neg (fun q => (List.mem_cons.mp q).elim c d)]
    have e0 : inL a t = 0 := if_neg hd.1
    rw [List.length_cons, ih]
    simp only [e]
    rcases seven ha.1 ha.2 with rfl | rfl | rfl | rfl | rfl | rfl | rfl <;> rw [e0] <;> simp <;> omega
theorem nd7_le {l : List Int} (hn : l.Nodup) (h : ∀ y ∈ l, 0 ≤ y ∧ y < 7) : l.length ≤ 7 := by
  have e := nd7 l hn h
  have b : ∀ j, inL j l ≤ 1 := fun j => by unfold inL; split <;> omega
  have := b 0; have := b 1; have := b 2; have := b 3; have := b 4; have := b 5; have := b 6
  omega
/-- one party's part of what stands while the ways are looked for -/
def BP (S x e y D B : Int → Int) (w : Int → List Int) (t : Int → Int) (T p : Int) : Prop :=
  (D p = FAR ∧ B p = -1) ∨ (y p ≤ D p ∧ D p ≤ 9 * (((w p).length : Nat) : Int) - 9 ∧ (w p).Nodup ∧ p ∈ w p ∧ (∀ z ∈ w p, (0 ≤ z ∧ z < 7) ∧ D z ≠ FAR ∧ D z - y z ≤ D p - y p) ∧ t p ≤ T ∧
    ((B p = -1 ∧ 0 < e p) ∨ ∃ a c, ArcW S x a p c (B p) ∧ D a ≠ FAR ∧ (D a + c < D p ∨ (D a + c = D p ∧ t a < t p))))
def BI (S x e y D B : Int → Int) (w : Int → List Int) (t : Int → Int) (T : Int) : Prop := ∀ p : Int, 0 ≤ p → p < 7 → BP S x e y D B w t T p ∧ (0 < e p → D p = 0)
theorem BP_fin {S x e y D B : Int → Int} {w : Int → List Int} {t : Int → Int} {T p : Int} (h : BP S x e y D B w t T p) (hy : ∀ p, 0 ≤ y p) : D p = FAR ∨ (0 ≤ D p ∧ D p ≤ 54) := by
  rcases h with h | h
  · exact Or.inl h.1
  · right
    have := nd7_le h.2.2.1 (fun z hz => (h.2.2.2.2.1 z hz).1)
    have := hy p
    omega
/-- which arcs are served: those of ways below j as far as round r + 1, the others as far as round r -/
def CV (S x D : Int → Int) (w : Int → List Int) (r : Nat) (j : Int) : Prop := ∀ a b c v, ArcW S x a b c v → (D a = FAR ∨ D b ≤ D a + c) ∨ (if v < j then r + 1 else r) ≤ (w a).length
theorem CV_skip {S x D : Int → Int} {w : Int → List Int} {r : Nat} {j : Int} (h : CV S x D w r j) (hn : ∀ a b c, ¬ ArcW S x a b c j) : CV S x D w r (j + 1) := fun a b c v hv => by
  rcases h a b c v hv with q | q
  · exact Or.inl q
  · right
    have : v ≠ j := fun e => hn a b c (e ▸ hv)
    by_cases c : v < j
    · rw [if_pos c] at q
      rw [if_pos (by omega)]
      exact q
    · rw [if_neg c] at q
      rw [if_neg (by omega)]
      exact q
theorem rch_step {S x e y : Int → Int} {s : (Int → Int) × (Int → Int)} {w : Int → List Int} {t : Int → Int} {T : Int} {r : Nat} {a b c j : Int} (hI : Inv S) (hp : Pot S x e y) (hB : BI S x e y s.1 s.2 w t T) (hC : CV S x s.1 w r j) (ha : ArcW S x a b c j) :
    ∃ w' t' T', BI S x e y (rch a b c j s).1 (rch a b c j s).2 w' t' T' ∧ CV S x (rch a b c j s).1 w' r (j + 1) := by
  obtain ⟨D, B⟩ := s
  dsimp only at hB hC
  have fa := arc_facts hI ha
  have pa := hp.2.2 a b c j ha
  by_cases u : D a ≠ FAR ∧ D a + c < D b
  · have e1 : rch a b c j (D, B) = (st D b (D a + c), st B b j) := if_pos u
    rw [e1]
    dsimp only
    have ba := (hB a fa.1.1 fa.1.2).1
    rcases ba with ba | ba
    · exact absurd ba.1 u.1
    have hnb : b ∉ w a := fun q => by
      have := (ba.2.2.2.2.1 b q).2.2
      omega
    have hla : r ≤ (w a).length := by
      rcases hC a b c j ha with q | q
      · omega
      · rw [if_neg (by omega)] at q
        exact q
    have hDb : D b ≠ FAR → st D b (D a + c) b < D b := fun _ => by rw [st_s]; exact u.2
    have hfa := BP_fin (Or.inr ba) hp.1
    have lt7 : (w a).length ≤ 7 := nd7_le ba.2.2.1 (fun z hz => (ba.2.2.2.2.1 z hz).1)
    refine ⟨fun p => if p = b then b :: w a else w p, fun p => if p = b then T + 1 else t p, T + 1, fun p h0 h1 => ⟨?_, fun he => ?_⟩, ?_⟩
    · by_cases cp : p = b
      · subst cp
        right
        dsimp only
        rw [if_pos rfl, if_pos rfl, st_s, st_s]
        refine ⟨by omega, by rw [List.length_cons]; omega, List.nodup_cons.mpr ⟨hnb, ba.2.2.1⟩, List.mem_cons_self, fun z hz => ?_, Int.le_refl _, Or.inr ⟨a, c, ha, ?_, ?_⟩⟩
        · rcases List.mem_cons.mp hz with e | hz
          · subst e
            rw [st_s]
            refine ⟨⟨h0, h1⟩, ?_, Int.le_refl _⟩
            unfold FAR at *
            omega
          · have hzp : z ≠ p := fun e => hnb (e ▸ hz)
            have := ba.2.2.2.2.1 z hz
            rw [st_n hzp]
            exact ⟨this.1, this.2.1, by omega⟩
        · rw [st_n fa.2.2.1]
          exact u.1
        · right
          rw [st_n fa.2.2.1, if_neg fa.2.2.1]
          exact ⟨rfl, by have := ba.2.2.2.2.2.1; omega⟩
      · rcases (hB p h0 h1).1 with bp | bp
        · left
          rw [st_n cp, st_n cp]
          exact bp
        · right
          dsimp only
          rw [if_neg cp, if_neg cp, st_n cp, st_n cp]
          refine ⟨bp.1, bp.2.1, bp.2.2.1, bp.2.2.2.1, fun z hz => ?_, by have := bp.2.2.2.2.2.1; omega, ?_⟩
          · have hz2 := bp.2.2.2.2.1 z hz
            by_cases cz : z = b
            · subst cz
              rw [st_s]
              refine ⟨hz2.1, ?_, by omega⟩
              unfold FAR at *
              omega
            · rw [st_n cz]
              exact hz2
          · rcases bp.2.2.2.2.2.2 with q | ⟨a', c', q1, q2, q3⟩
            · exact Or.inl q
            · refine Or.inr ⟨a', c', q1, ?_, ?_⟩
              · by_cases ca : a' = b
                · subst ca
                  rw [st_s]
                  unfold FAR at *
                  omega
                · rw [st_n ca]
                  exact q2
              · by_cases ca : a' = b
                · subst ca
                  left
                  rw [st_s]
                  omega
                · rw [st_n ca, if_neg ca]
                  exact q3
    · by_cases cp : p = b
      · subst cp
        have := (hB p h0 h1).2 he
        have := hp.2.1 p h0 h1 he
        omega
      · rw [st_n cp]
        exact (hB p h0 h1).2 he
    · intro a2 b2 c2 v hv
      dsimp only
      by_cases cv : v = j
      · subst cv
        have := arc_uniq ha hv
        obtain ⟨rfl, rfl, rfl⟩ := this
        left; right
        rw [st_s, st_n fa.2.2.1]
        exact Int.le_refl _
      · by_cases ca : a2 = b
        · subst ca
          right
          rw [if_pos rfl, List.length_cons]
          split <;> omega
        · rw [if_neg ca, st_n ca]
          rcases hC a2 b2 c2 v hv with q | q
          · left
            rcases q with q | q
            · exact Or.inl q
            · right
              by_cases cb : b2 = b
              · subst cb
                rw [st_s]
                omega
              · rw [st_n cb]
                exact q
          · right
            by_cases d : v < j
            · rw [if_pos d] at q
              rw [if_pos (by omega)]
              exact q
            · rw [if_neg d] at q
              rw [if_neg (by omega)]
              exact q
  · have e1 : rch a b c j (D, B) = (D, B) := if_neg u
    rw [e1]
    refine ⟨w, t, T, hB, fun a2 b2 c2 v hv => ?_⟩
    by_cases cv : v = j
    · subst cv
      obtain ⟨rfl, rfl, rfl⟩ := arc_uniq ha hv
      left
      by_cases d : D a = FAR
      · exact Or.inl d
      · right
        dsimp only
        have : ¬ D a + c < D b := fun q => u ⟨d, q⟩
        omega
    · rcases hC a2 b2 c2 v hv with q | q
      · exact Or.inl q
      · right
        by_cases d : v < j
        · rw [if_pos d] at q
          rw [if_pos (by omega)]
          exact q
        · rw [if_neg d] at q
          rw [if_neg (by omega)]
          exact q
