/-! the least cost: rounds, ways, what is pushed along them -/
def OKs (S x e y : Int → Int) (r : Nat) (j : Int) (s : (Int → Int) × (Int → Int)) : Prop := ∃ w t T, BI S x e y s.1 s.2 w t T ∧ CV S x s.1 w r j
theorem shr1_step {S x e y : Int → Int} {s : (Int → Int) × (Int → Int)} {r : Nat} {k : Int} (hI : Inv S) (hp : Pot S x e y) (hk : 0 ≤ k ∧ k < S 1) (hd : di S k = 0) (h : OKs S x e y r (2 * k) s) : OKs S x e y r (2 * k + 1) (shr1 S x k s) := by
  obtain ⟨w, t, T, hB, hC⟩ := h
  unfold shr1
  by_cases c : x k < am S k
  · rw [if_pos c]
    exact rch_step hI hp hB hC ⟨k, hk.1, hk.2, hd, Or.inl ⟨c, rfl, rfl, rfl, rfl⟩⟩
  · rw [if_neg c]
    refine ⟨w, t, T, hB, CV_skip hC (fun a b c' => ?_)⟩
    rintro ⟨k', h0, h1, -, h2⟩
    rcases h2 with h2 | h2
    · have : k' = k := by omega
      subst this
      exact c h2.1
    · omega
theorem shr2_step {S x e y : Int → Int} {s : (Int → Int) × (Int → Int)} {r : Nat} {k : Int} (hI : Inv S) (hp : Pot S x e y) (hk : 0 ≤ k ∧ k < S 1) (hd : di S k = 0) (h : OKs S x e y r (2 * k + 1) s) : OKs S x e y r (2 * (k + 1)) (shr2 S x k s) := by
  obtain ⟨w, t, T, hB, hC⟩ := h
  rw [show 2 * (k + 1) = 2 * k + 1 + 1 by omega]
  unfold shr2
  by_cases c : 0 < x k
  · rw [if_pos c]
    exact rch_step hI hp hB hC ⟨k, hk.1, hk.2, hd, Or.inr ⟨c, rfl, rfl, rfl, rfl⟩⟩
  · rw [if_neg c]
    refine ⟨w, t, T, hB, CV_skip hC (fun a b c' => ?_)⟩
    rintro ⟨k', h0, h1, -, h2⟩
    rcases h2 with h2 | h2
    · omega
    · have : k' = k := by omega
      subst this
      exact c h2.1
theorem rndN_step {S x e y : Int → Int} {s : (Int → Int) × (Int → Int)} {r : Nat} (hI : Inv S) (hp : Pot S x e y) (hx : XB S x) (h : OKs S x e y r 0 s) : ∀ m : Nat, (m : Int) ≤ S 1 → OKs S x e y r (2 * (m : Int)) (rndN S x m s)
  | 0, _ => h
  | m + 1, hm => by
    have ih := rndN_step hI hp hx h m (by omega)
    have b := hx m (by omega) (by omega)
    rw [rndN, show ((m + 1 : Nat) : Int) = (m : Int) + 1 by omega]
    by_cases c : di S m = 0 ∧ 0 < am S m
    · rw [if_pos c]
      exact shr2_step hI hp ⟨by omega, by omega⟩ c.1 (shr1_step hI hp ⟨by omega, by omega⟩ c.1 ih)
    · rw [if_neg c]
      obtain ⟨w, t, T, hB, hC⟩ := ih
      refine ⟨w, t, T, hB, ?_⟩
      rw [show 2 * ((m : Int) + 1) = 2 * (m : Int) + 1 + 1 by omega]
      refine CV_skip (CV_skip hC (fun a b' c' => ?_)) (fun a b' c' => ?_) <;>
      · rintro ⟨k', h0, h1, hd, h2⟩
        have : k' = m := by rcases h2 with h2 | h2 <;> omega
        subst this
        rcases h2 with h2 | h2 <;> omega
theorem rnd_step {S x e y : Int → Int} {s : (Int → Int) × (Int → Int)} {r : Nat} (hI : Inv S) (hp : Pot S x e y) (hx : XB S x) (h : OKs S x e y r 0 s) : OKs S x e y (r + 1) 0 (rnd S x s) := by
  have hn := hI.2.1
  obtain ⟨w, t, T, hB, hC⟩ := rndN_step hI hp hx h (S 1).toNat (by omega)
  refine ⟨w, t, T, hB, fun a b c v hv => ?_⟩
  rcases hC a b c v hv with q | q
  · exact Or.inl q
  · right
    have f := arc_facts hI hv
    rw [if_pos (by omega)] at q
    rw [if_neg (by omega)]
    exact q
theorem ini_ok {S x e y : Int → Int} (hI : Inv S) (hp : Pot S x e y) : OKs S x e y 1 0 (ini e) := by
  refine ⟨fun p => [p], fun _ => 0, 0, fun p h0 h1 => ⟨?_, fun he => if_pos he⟩, fun a b c v hv => ?_⟩
  · by_cases c : 0 < e p
    · right
      have e1 : (ini e).1 p = 0 := if_pos c
      have := hp.2.1 p h0 h1 c
      rw [e1]
      refine ⟨by omega, by show (0 : Int) ≤ 9 * ((1 : Nat) : Int) - 9; omega, by simp, by simp, fun z hz => ?_, Int.le_refl _, Or.inl ⟨rfl, c⟩⟩
      rw [List.mem_singleton.mp hz, e1]
      exact ⟨⟨h0, h1⟩, by decide, Int.le_refl _⟩
    · exact Or.inl ⟨if_neg c, rfl⟩
  · right
    have := arc_facts hI hv
    rw [if_neg (by omega)]
    exact Nat.le_refl 1
theorem rnds_ok {S x e y : Int → Int} (hI : Inv S) (hp : Pot S x e y) (hx : XB S x) : ∀ r : Nat, OKs S x e y (r + 1) 0 (rnds S x r (ini e))
  | 0 => ini_ok hI hp
  | r + 1 => rnd_step hI hp hx (rnds_ok hI hp hx r)
theorem OKs_fin {S x e y : Int → Int} {s : (Int → Int) × (Int → Int)} {r : Nat} {j : Int} (hp : Pot S x e y) (h : OKs S x e y r j s) {p : Int} (h0 : 0 ≤ p) (h1 : p < 7) : s.1 p = FAR ∨ (0 ≤ s.1 p ∧ s.1 p ≤ 54) := by
  obtain ⟨w, t, T, hB, -⟩ := h
  exact BP_fin (hB p h0 h1).1 hp.1
/-- behind the rounds: nothing is nearer any more, and who is reached is reached by the way that is noted -/
def Fin (S x e D B : Int → Int) (t : Int → Int) : Prop := (∀ a b c v, ArcW S x a b c v → D a = FAR ∨ (D b ≠ FAR ∧ D b ≤ D a + c)) ∧
  ∀ p : Int, 0 ≤ p → p < 7 → (D p = FAR ∨ (0 ≤ D p ∧ D p ≤ 54)) ∧ (0 < e p → D p = 0) ∧ (D p = FAR → B p = -1) ∧ (D p ≠ FAR → (B p = -1 ∧ 0 < e p) ∨ ∃ a c, ArcW S x a p c (B p) ∧ D a ≠ FAR ∧ D a + c = D p ∧ t a < t p)
theorem meas_fin {S x e y : Int → Int} (hI : Inv S) (hp : Pot S x e y) (hx : XB S x) : ∃ t, Fin S x e (meas S x e).1 (meas S x e).2 t ∧ ∀ p : Int, 0 ≤ p → p < 7 → (meas S x e).1 p = FAR ∨ y p ≤ (meas S x e).1 p := by
  obtain ⟨w, t, T, hB, hC⟩ := rnds_ok hI hp hx 7
  have hC2 : ∀ a b c v, ArcW S x a b c v → (meas S x e).1 a = FAR ∨ (meas S x e).1 b ≤ (meas S x e).1 a + c := fun a b c v hv => by
    rcases hC a b c v hv with q | q
    · exact q
    · have f := arc_facts hI hv
      rcases (hB a f.1.1 f.1.2).1 with z | z
      · exact Or.inl z.1
      · have := nd7_le z.2.2.1 (fun u hu => (z.2.2.2.2.1 u hu).1)
        rw [if_neg (by omega)] at q
        omega
  refine ⟨t, ⟨fun a b c v hv => ?_, fun p h0 h1 => ⟨BP_fin (hB p h0 h1).1 hp.1, (hB p h0 h1).2, fun q => ?_, fun q => ?_⟩⟩, fun p h0 h1 => ?_⟩
  · have f := arc_facts hI hv
    rcases hC2 a b c v hv with q | q
    · exact Or.inl q
    · by_cases z : (meas S x e).1 a = FAR
      · exact Or.inl z
      · right
        have := BP_fin (hB a f.1.1 f.1.2).1 hp.1
        refine ⟨fun u => ?_, q⟩
        have e2 : (meas S x e).1 a = (rnds S x 7 (ini e)).1 a := rfl
        unfold FAR at *
        omega
  · rcases (hB p h0 h1).1 with z | z
    · exact z.2
    · have := BP_fin (Or.inr z) hp.1
      have := nd7_le z.2.2.1 (fun u hu => (z.2.2.2.2.1 u hu).1)
      have e2 : (meas S x e).1 p = (rnds S x 7 (ini e)).1 p := rfl
      unfold FAR at *
      omega
  · rcases (hB p h0 h1).1 with z | z
    · exact absurd z.1 q
    · rcases z.2.2.2.2.2.2 with u | ⟨a, c, u1, u2, u3⟩
      · exact Or.inl u
      · refine Or.inr ⟨a, c, u1, u2, ?_⟩
        have e2 : (meas S x e) = (rnds S x 7 (ini e)) := rfl
        rw [e2] at hC2 ⊢
        have u4 : (rnds S x 7 (ini e)).1 p ≤ (rnds S x 7 (ini e)).1 a + c := by
          rcases hC2 a p c _ u1 with v | v
          · exact absurd v u2
          · exact v
        rcases u3 with u3 | u3
        · omega
        · exact u3
  · rcases (hB p h0 h1).1 with z | z
    · exact Or.inl z.1
    · exact Or.inr z.1
/-- from where a way comes -/
def ahd (S : Int → Int) (v : Int) : Int := if v % 2 = 0 then fr S (v / 2) else tO S (v / 2)
/-- the ways by which a party is reached, the last one first; where they begin -/
def pth (S B : Int → Int) : Nat → Int → List Int
  | 0, _ => []
  | n + 1, p => if B p = -1 then [] else B p :: pth S B n (ahd S (B p))
def org (S B : Int → Int) : Nat → Int → Int
  | 0, p => p
  | n + 1, p => if B p = -1 then p else org S B n (ahd S (B p))
/-- the parties on it -/
def nds (S B : Int → Int) : Nat → Int → List Int
  | 0, p => [p]
  | n + 1, p => if B p = -1 then [p] else p :: nds S B n (ahd S (B p))
theorem arc_ahd {S x : Int → Int} {a b c v : Int} (h : ArcW S x a b c v) : a = ahd S v ∧ v ≠ -1 ∧ 0 ≤ v / 2 ∧ v / 2 < S 1 := by
  obtain ⟨k, h0, h1, hd, h2⟩ := h
  unfold ahd
  rcases h2 with h2 | h2
  · rw [if_pos (by omega), show v / 2 = k by omega]
    exact ⟨h2.2.1, by omega, h0, h1⟩
  · rw [if_neg (by omega), show v / 2 = k by omega]
    exact ⟨h2.2.1, by omega, h0, h1⟩
/-- all that is needed of the ways to a party that is reached -/
theorem pth_ok {S x e D B t : Int → Int} (hI : Inv S) (hF : Fin S x e D B t) : ∀ (n : Nat) (p : Int) (l : List Int), 0 ≤ p → p < 7 → D p ≠ FAR → l.Nodup → (∀ z ∈ l, (0 ≤ z ∧ z < 7) ∧ t p < t z) → l.length + n = 7 →
    0 < e (org S B n p) ∧ (0 ≤ org S B n p ∧ org S B n p < 7) ∧ B (org S B n p) = -1 ∧ (pth S B n p).length < n ∧ (∀ v ∈ pth S B n p, ∃ a b c, ArcW S x a b c v ∧ D a ≠ FAR ∧ D a + c = D b ∧ b ∈ nds S B n p ∧ t a < t b) ∧ (∀ z ∈ nds S B n p, (0 ≤ z ∧ z < 7) ∧ t z ≤ t p) ∧ ((pth S B n p).map (fun v => v / 2)).Nodup
  | 0, p, l, h0, h1, _, hn, hl, hc => by
    have : (p :: l).Nodup := List.nodup_cons.mpr ⟨fun q => by have := (hl p q).2; omega, hn⟩
    have := nd7_le this (fun z hz => by
      rcases List.mem_cons.mp hz with e | hz
      · rw [e]; exact ⟨h0, h1⟩
      · exact (hl z hz).1)
    rw [List.length_cons] at this
    omega
  | n + 1, p, l, h0, h1, hD, hn, hl, hc => by
    have hf := hF.2 p h0 h1
    by_cases c : B p = -1
    · rcases hf.2.2.2 hD with u | ⟨a, c', u1, -⟩
      · simp only [org, pth, nds, if_pos c]
        refine ⟨u.2, ⟨h0, h1⟩, c, by simp, fun v hv => by simp at hv, fun z hz => ?_, by simp⟩
        rw [List.mem_singleton.mp hz]
        exact ⟨⟨h0, h1⟩, Int.le_refl _⟩
      · exact absurd c (arc_ahd u1).2.1
    · rcases hf.2.2.2 hD with u | ⟨a, c', u1, u2, u3, u4⟩
      · exact absurd u.1 c
      · have ea := arc_ahd u1
        have fa := arc_facts hI u1
        have ih := pth_ok hI hF n a (p :: l) fa.1.1 fa.1.2 u2 (List.nodup_cons.mpr ⟨fun q => by have := (hl p q).2; omega, hn⟩) (fun z hz => by
          rcases List.mem_cons.mp hz with e | hz
          · rw [e]; exact ⟨⟨h0, h1⟩, u4⟩
          · have := hl z hz
            exact ⟨this.1, by omega⟩) (by rw [List.length_cons]; omega)
        simp only [org, pth, nds, if_neg c, ← ea.1]
        refine ⟨ih.1, ih.2.1, ih.2.2.1, by rw [List.length_cons]; have := ih.2.2.2.1; omega, fun v hv => ?_, fun z hz => ?_, ?_⟩
        · rcases List.mem_cons.mp hv with e | hv
          · rw [e]
            exact ⟨a, p, c', u1, u2, u3, List.mem_cons_self, u4⟩
          · obtain ⟨a2, b2, c2, w1, w2, w3, w4, w5⟩ := ih.2.2.2.2.1 v hv
            exact ⟨a2, b2, c2, w1, w2, w3, List.mem_cons_of_mem _ w4, w5⟩
        · rcases List.mem_cons.mp hz with e | hz
          · rw [e]
            exact ⟨⟨h0, h1⟩, Int.le_refl _⟩
          · have := ih.2.2.2.2.2.1 z hz
            exact ⟨this.1, by omega⟩
        · rw [List.map_cons]
          refine List.nodup_cons.mpr ⟨fun q => ?_, ih.2.2.2.2.2.2⟩
          obtain ⟨v, hv, e⟩ := List.mem_map.mp q
          obtain ⟨a2, b2, c2, w1, w2, w3, w4, w5⟩ := ih.2.2.2.2.1 v hv
          have hb2 := (ih.2.2.2.2.2.1 b2 w4).2
          obtain ⟨k, k0, k1, kd, k2⟩ := u1
          obtain ⟨k', k0', k1', kd', k2'⟩ := w1
          have hk : k = k' := by
            rcases k2 with k2 | k2 <;> rcases k2' with k2' | k2' <;> omega
          subst hk
          rcases k2 with k2 | k2 <;> rcases k2' with k2' | k2'
          · rw [k2'.2.2.1, ← k2.2.2.1] at hb2
            omega
          · rw [k2'.2.2.1, ← k2.2.1, k2'.2.1, ← k2.2.2.1] at w5
            omega
          · rw [k2'.2.2.1, ← k2.2.1, k2'.2.1, ← k2.2.2.1] at w5
            omega
          · rw [k2'.2.2.1, ← k2.2.2.1] at hb2
            omega
/-- as much as a way can take -/
def cap (S x : Int → Int) (v : Int) : Int := if v % 2 = 0 then am S (v / 2) - x (v / 2) else x (v / 2)
def muc (S x e : Int → Int) (l : List Int) (o p : Int) : Int := min (e o) (l.foldl (fun m v => min m (cap S x v)) (-e p))
/-- what stays behind a push -/
def psh (x : Int → Int) : List Int → Int → (Int → Int)
  | [], _ => x
  | v :: l, m => psh (st x (v / 2) (x (v / 2) + (if v % 2 = 0 then m else -m))) l m
theorem fm_le2 {d : Int → Int} : ∀ (t : List Int) (m : Int), t.foldl (fun m v => min m (d v)) m ≤ m ∧ (∀ v ∈ t, t.foldl (fun m v => min m (d v)) m ≤ d v) ∧ (0 < m → (∀ v ∈ t, 0 < d v) → 0 < t.foldl (fun m v => min m (d v)) m)
  | [], m => ⟨Int.le_refl _, fun x h => by simp at h, fun h _ => h⟩
  | a :: t, m => by
    have ih := fm_le2 (d := d) t (min m (d a))
    rw [List.foldl_cons]
    refine ⟨by omega, fun v hv => ?_, fun h0 h => ?_⟩
    · rcases List.mem_cons.mp hv with e | hv
      · rw [e]; omega
      · exact ih.2.1 v hv
    · have := h a List.mem_cons_self
      exact ih.2.2 (by omega) (fun v hv => h v (List.mem_cons_of_mem _ hv))
theorem psh_out : ∀ (l : List Int) (x : Int → Int) (m k : Int), k ∉ l.map (fun v => v / 2) → psh x l m k = x k
  | [], _, _, _, _ => rfl
  | v :: l, x, m, k, h => by
    rw [List.map_cons] at h
    rw [psh, psh_out l _ m k (fun q => h (List.mem_cons_of_mem _ q)), st_n (fun e => h (by rw [e]; exact List.mem_cons_self))]
theorem psh_in : ∀ (l : List Int) (x : Int → Int) (m v : Int), (l.map (fun v => v / 2)).Nodup → v ∈ l → psh x l m (v / 2) = x (v / 2) + (if v % 2 = 0 then m else -m)
  | [], _, _, _, _, h => by simp at h
  | u :: l, x, m, v, hn, h => by
    rw [List.map_cons, List.nodup_cons] at hn
    rw [psh]
    rcases List.mem_cons.mp h with e | h
    · subst e
      rw [psh_out l _ m _ hn.1, st_s]
    · have hne : v / 2 ≠ u / 2 := fun e => hn.1 (by rw [← e]; exact List.mem_map.mpr ⟨v, h, rfl⟩)
      rw [psh_in l _ m v hn.2 h, st_n hne]
/-- the steps' state: what stays, what is too much -/
def LI (S x e : Int → Int) : Prop := XB S x ∧ (∃ y, Pot S x e y) ∧ ∀ p : Int, 0 ≤ p → p < 7 → -40000 ≤ e p ∧ e p ≤ 40000
theorem arc_psh {S x : Int → Int} {l : List Int} {m a b c v : Int} (hn : (l.map (fun v => v / 2)).Nodup) (hl : ∀ u ∈ l, ∃ a b c, ArcW S x a b c u) (h : ArcW S (psh x l m) a b c v) : ArcW S x a b c v ∨ ∃ u ∈ l, ArcW S x b a (-c) u := by
  obtain ⟨k, h0, h1, hd, h2⟩ := h
  by_cases ho : k ∈ l.map (fun v => v / 2)
  · obtain ⟨u, hu, eu⟩ := List.mem_map.mp ho
    obtain ⟨a', b', c', hw⟩ := hl u hu
    have hw2 := hw
    obtain ⟨k', g0, g1, gd, g2⟩ := hw2
    have hk : k' = k := by rcases g2 with g2 | g2 <;> omega
    subst hk
    rcases g2 with g2 | g2 <;> rcases h2 with h2 | h2
    · left
      exact ⟨k', h0, h1, hd, Or.inl ⟨g2.1, h2.2⟩⟩
    · right
      refine ⟨u, hu, k', h0, h1, hd, Or.inl ⟨g2.1, by omega, by omega, by omega, g2.2.2.2.2⟩⟩
    · right
      refine ⟨u, hu, k', h0, h1, hd, Or.inr ⟨g2.1, by omega, by omega, by omega, g2.2.2.2.2⟩⟩
    · left
      exact ⟨k', h0, h1, hd, Or.inr ⟨g2.1, h2.2⟩⟩
  · left
    rw [psh_out l x m k ho] at h2
    exact ⟨k, h0, h1, hd, h2⟩
theorem cap_pos {S x : Int → Int} {a b c v : Int} (h : ArcW S x a b c v) : 0 < cap S x v := by
  obtain ⟨k, h0, h1, hd, h2⟩ := h
  unfold cap
  rcases h2 with h2 | h2
  · rw [if_pos (by omega), show v / 2 = k by omega]
    omega
  · rw [if_neg (by omega), show v / 2 = k by omega]
    exact h2.1
def psE (e : Int → Int) (o p m : Int) : Int → Int := st (st e o (e o - m)) p (st e o (e o - m) p + m)
theorem push_ok {S x e : Int → Int} (hI : Inv S) (hL : LI S x e) {p : Int} (h0 : 0 ≤ p) (h1 : p < 7) (hp : e p < 0) (hD : (meas S x e).1 p ≠ FAR) :
    let B := (meas S x e).2
    let l := pth S B 7 p
    let o := org S B 7 p
    let m := muc S x e l o p
    0 < m ∧ m ≤ e o ∧ m ≤ -e p ∧ (0 ≤ o ∧ o < 7) ∧ o ≠ p ∧ B o = -1 ∧ l.length < 7 ∧ (∀ v ∈ l, m ≤ cap S x v ∧ 0 ≤ v / 2 ∧ v / 2 < S 1) ∧ (l.map (fun v => v / 2)).Nodup ∧ LI S (psh x l m) (psE e o p m) := by
  intro B l o m
  obtain ⟨hx, ⟨y, hy⟩, he⟩ := hL
  obtain ⟨t, hF, hyD⟩ := meas_fin hI hy hx
  have hk := pth_ok hI hF 7 p [] h0 h1 hD List.nodup_nil (fun z hz => by simp at hz) rfl
  have hcaps : ∀ v ∈ l, 0 < cap S x v := fun v hv => by
    obtain ⟨a, b, c, w1, -⟩ := hk.2.2.2.2.1 v hv
    exact cap_pos w1
  have hm := fm_le2 (d := cap S x) l (-e p)
  have hpos := hm.2.2 (by omega) hcaps
  have hm0 : 0 < m := by
    show 0 < min (e o) (l.foldl (fun m v => min m (cap S x v)) (-e p))
    have : 0 < e o := hk.1
    omega
  have hme : m ≤ e o := by
    show min (e o) (l.foldl (fun m v => min m (cap S x v)) (-e p)) ≤ e o
    omega
  have hmp : m ≤ -e p := by
    show min (e o) (l.foldl (fun m v => min m (cap S x v)) (-e p)) ≤ -e p
    omega
  have hmc : ∀ v ∈ l, m ≤ cap S x v := fun v hv => by
    have := hm.2.1 v hv
    show min (e o) (l.foldl (fun m v => min m (cap S x v)) (-e p)) ≤ cap S x v
    omega
  have hop : o ≠ p := fun q => by
    have : 0 < e o := hk.1
    rw [q] at this
    omega
  have hnd := hk.2.2.2.2.2.2
  have hio := hk.2.1
  refine ⟨hm0, hme, hmp, hio, hop, hk.2.2.1, hk.2.2.2.1, fun v hv => ⟨hmc v hv, ?_⟩, hnd, ?_, ⟨fun q => if (meas S x e).1 q = FAR then y q + 60 else if 0 ≤ q ∧ q < 7 then (meas S x e).1 q else 0, ?_, ?_, ?_⟩, ?_⟩
  · obtain ⟨a, b, c, w1, -⟩ := hk.2.2.2.2.1 v hv
    exact (arc_ahd w1).2.2
  · intro k k0 k1
    have hxk := hx k k0 k1
    by_cases ho : k ∈ l.map (fun v => v / 2)
    · obtain ⟨v, hv, ev⟩ := List.mem_map.mp ho
      have hc := hmc v hv
      have e1 := psh_in l x m v hnd hv
      rw [ev] at e1
      rw [e1]
      obtain ⟨a, b, c, ⟨k', g0, g1, gd, g2⟩, -⟩ := hk.2.2.2.2.1 v hv
      have hkk : k' = k := by rcases g2 with g2 | g2 <;> omega
      subst hkk
      unfold cap at hc
      rw [ev] at hc
      refine ⟨?_, ?_, fun q => absurd gd q⟩ <;> (split at hc <;> split <;> omega)
    · rw [psh_out l x m k ho]
      exact hxk
  · intro q
    have := hy.1 q
    dsimp only
    split
    · omega
    · split
      · rename_i a b
        have := (hF.2 q b.1 b.2).1
        omega
      · omega
  · intro q q0 q1 hq
    have hqp : q ≠ p := fun z => by
      subst z
      unfold psE at hq
      rw [st_s, st_n (fun z => hop z.symm)] at hq
      omega
    have heq : 0 < e q := by
      unfold psE at hq
      rw [st_n hqp] at hq
      by_cases z : q = o
      · rw [z]; exact hk.1
      · rw [st_n z] at hq
        exact hq
    have := (hF.2 q q0 q1).2.1 heq
    dsimp only
    rw [this, if_neg (by decide), if_pos ⟨q0, q1⟩]
  · intro a b c v hv
    have key : ∀ a b c, ((meas S x e).1 a = FAR → y b ≤ y a + c) → ((meas S x e).1 a ≠ FAR → (meas S x e).1 b ≠ FAR ∧ (meas S x e).1 b ≤ (meas S x e).1 a + c) → (0 ≤ a ∧ a < 7) → (0 ≤ b ∧ b < 7) → -9 ≤ c ∧ c ≤ 9 →
        (if (meas S x e).1 b = FAR then y b + 60 else if 0 ≤ b ∧ b < 7 then (meas S x e).1 b else 0) ≤ (if (meas S x e).1 a = FAR then y a + 60 else if 0 ≤ a ∧ a < 7 then (meas S x e).1 a else 0) + c := by
      intro a b c g1 g2 ga gb gc
      have fb := (hF.2 b gb.1 gb.2).1
      have yb := hy.1 b
      have yDb := hyD b gb.1 gb.2
      by_cases u : (meas S x e).1 a = FAR
      · have := g1 u
        rw [if_pos u]
        by_cases w : (meas S x e).1 b = FAR
        · rw [if_pos w]
          omega
        · rw [if_neg w, if_pos gb]
          have hb54 : (meas S x e).1 b ≤ y b + 54 := by
            have := fb
            omega
          omega
      · have := g2 u
        rw [if_neg u, if_pos ga, if_neg this.1, if_pos gb]
        exact this.2
    have fa := arc_facts hI hv
    dsimp only
    rcases arc_psh hnd (fun u hu => by obtain ⟨a, b, c, w1, -⟩ := hk.2.2.2.2.1 u hu; exact ⟨a, b, c, w1⟩) hv with g | ⟨u, hu, g⟩
    · refine key a b c (fun _ => hy.2.2 a b c v g) (fun q => ?_) fa.1 fa.2.1 fa.2.2.2.1
      rcases hF.1 a b c v g with z | z
      · exact absurd z q
      · exact z
    · obtain ⟨a2, b2, c2, w1, w2, w3, -⟩ := hk.2.2.2.2.1 u hu
      obtain ⟨rfl, rfl, rfl⟩ := arc_uniq g w1
      have z : (meas S x e).1 a ≠ FAR ∧ (meas S x e).1 b ≠ FAR := by
        refine ⟨?_, w2⟩
        have := (hF.2 b fa.2.1.1 fa.2.1.2).1
        have := (hF.2 a fa.1.1 fa.1.2).1
        unfold FAR at *
        omega
      refine key a b c (fun q => absurd q z.1) (fun _ => ⟨z.2, by omega⟩) fa.1 fa.2.1 fa.2.2.2.1
  · intro q q0 q1
    have a1 := he q q0 q1
    have a2 := he o hio.1 hio.2
    have a3 := he p h0 h1
    unfold psE
    by_cases z : q = p
    · subst z
      rw [st_s, st_n (fun z => hop z.symm)]
      omega
    · rw [st_n z]
      by_cases z2 : q = o
      · subst z2
        rw [st_s]
        omega
      · rw [st_n z2]
        exact a1
