/-! the least cost: the steps, their end -/
def mx (z : Int) : Int := if 0 < z then z else 0
def posE (e : Int → Int) : Int := mx (e 0) + mx (e 1) + mx (e 2) + mx (e 3) + mx (e 4) + mx (e 5) + mx (e 6)
theorem posE_st {e : Int → Int} {i v : Int} (h0 : 0 ≤ i) (h1 : i < 7) : posE (st e i v) = posE e - mx (e i) + mx v := by
  unfold posE st
  rcases seven h0 h1 with rfl | rfl | rfl | rfl | rfl | rfl | rfl <;> simp <;> omega
theorem mx_nn (z : Int) : 0 ≤ mx z := by unfold mx; split <;> omega
theorem posE_nn (e : Int → Int) : 0 ≤ posE e := by
  unfold posE
  have := mx_nn (e 0); have := mx_nn (e 1); have := mx_nn (e 2); have := mx_nn (e 3); have := mx_nn (e 4); have := mx_nn (e 5); have := mx_nn (e 6)
  omega
theorem posE_ge {e : Int → Int} {p : Int} (h0 : 0 ≤ p) (h1 : p < 7) : mx (e p) ≤ posE e := by
  unfold posE
  have := mx_nn (e 0); have := mx_nn (e 1); have := mx_nn (e 2); have := mx_nn (e 3); have := mx_nn (e 4); have := mx_nn (e 5); have := mx_nn (e 6)
  rcases seven h0 h1 with rfl | rfl | rfl | rfl | rfl | rfl | rfl <;> omega
def nrN (D e : Int → Int) : Nat → Int × Int
  | 0 => (-1, FAR)
  | m + 1 => if e m < 0 ∧ D m < (nrN D e m).2 then ((m : Int), D m) else nrN D e m
def near (D e : Int → Int) : Int := (nrN D e 7).1
theorem nrN_ok (D e : Int → Int) : ∀ m : Nat, ((nrN D e m).1 = -1 ∧ (nrN D e m).2 = FAR) ∨ (0 ≤ (nrN D e m).1 ∧ (nrN D e m).1 < m ∧ e (nrN D e m).1 < 0 ∧ D (nrN D e m).1 = (nrN D e m).2 ∧ (nrN D e m).2 < FAR)
  | 0 => Or.inl ⟨rfl, rfl⟩
  | m + 1 => by
    have ih := nrN_ok D e m
    rw [nrN]
    split
    · rename_i c
      right
      refine ⟨by omega, by omega, c.1, rfl, ?_⟩
      dsimp only
      rcases ih with z | z <;> omega
    · rcases ih with z | z
      · exact Or.inl z
      · exact Or.inr ⟨z.1, by omega, z.2.2⟩
theorem near_ok (D e : Int → Int) : near D e = -1 ∨ (0 ≤ near D e ∧ near D e < 7 ∧ e (near D e) < 0 ∧ D (near D e) < FAR) := by
  rcases nrN_ok D e 7 with z | z
  · exact Or.inl z.1
  · exact Or.inr ⟨z.1, z.2.1, z.2.2.1, by unfold near; omega⟩
def nxt (S x e : Int → Int) (p : Int) : (Int → Int) × (Int → Int) :=
  let B := (meas S x e).2
  let l := pth S B 7 p
  let o := org S B 7 p
  let m := muc S x e l o p
  (psh x l m, psE e o p m)
/-- at most n pushes -/
def LC (S : Int → Int) : Nat → (Int → Int) → (Int → Int) → (Int → Int)
  | 0, x, _ => x
  | n + 1, x, e => if near (meas S x e).1 e = -1 then x else LC S n (nxt S x e (near (meas S x e).1 e)).1 (nxt S x e (near (meas S x e).1 e)).2
theorem nxt_ok {S x e : Int → Int} (hI : Inv S) (hL : LI S x e) {p : Int} (h0 : 0 ≤ p) (h1 : p < 7) (hp : e p < 0) (hD : (meas S x e).1 p ≠ FAR) : LI S (nxt S x e p).1 (nxt S x e p).2 ∧ posE (nxt S x e p).2 < posE e := by
  have h := push_ok hI hL h0 h1 hp hD
  refine ⟨h.2.2.2.2.2.2.2.2.2, ?_⟩
  dsimp only at h
  show posE (psE e (org S (meas S x e).2 7 p) p (muc S x e (pth S (meas S x e).2 7 p) (org S (meas S x e).2 7 p) p)) < _
  generalize org S (meas S x e).2 7 p = o at h ⊢
  generalize muc S x e (pth S (meas S x e).2 7 p) o p = m at h ⊢
  unfold psE
  rw [posE_st h0 h1, posE_st h.2.2.2.1.1 h.2.2.2.1.2, st_n (fun q => h.2.2.2.2.1 q.symm)]
  unfold mx
  have := h.1
  have := h.2.1
  have := h.2.2.1
  split <;> split <;> split <;> split <;> omega
theorem near_pos {S x e : Int → Int} (hI : Inv S) (hL : LI S x e) (hn : near (meas S x e).1 e ≠ -1) : 0 < posE e := by
  obtain ⟨hx, ⟨y, hy⟩, he⟩ := hL
  obtain ⟨t, hF, -⟩ := meas_fin hI hy hx
  rcases near_ok (meas S x e).1 e with z | z
  · exact absurd z hn
  · have hk := pth_ok hI hF 7 _ [] z.1 z.2.1 (by omega) List.nodup_nil (fun z hz => by simp at hz) rfl
    have := posE_ge (e := e) hk.2.1.1 hk.2.1.2
    unfold mx at this
    rw [if_pos hk.1] at this
    have := hk.1
    omega
def exN (S : Int → Int) : Nat → (Int → Int)
  | 0 => fun _ => 0
  | m + 1 => if di S m = 0 ∧ 0 < am S m then st (st (exN S m) (fr S m) (exN S m (fr S m) + am S m)) (tO S m) (st (exN S m) (fr S m) (exN S m (fr S m) + am S m) (tO S m) + -am S m) else exN S m
def ex0 (S : Int → Int) : Int → Int := exN S (S 1).toNat
theorem exN_ok {S : Int → Int} (hI : Inv S) : ∀ m : Nat, (m : Int) ≤ S 1 → posE (exN S m) ≤ 1000 * m ∧ ∀ p : Int, -1000 * m ≤ exN S m p ∧ exN S m p ≤ 1000 * m
  | 0, _ => ⟨by show posE (fun _ => 0) ≤ 1000 * ((0 : Nat) : Int); decide, fun p => ⟨by show (-1000 : Int) * 0 ≤ 0; omega, by show (0 : Int) ≤ 1000 * 0; omega⟩⟩
  | m + 1, hm => by
    have ih := exN_ok hI m (by omega)
    have f := hI.2.2 m (by omega) (by omega)
    have g := hI.1
    rw [exN, show ((m + 1 : Nat) : Int) = (m : Int) + 1 by omega]
    split
    · have e1 : st (exN S m) (fr S m) (exN S m (fr S m) + am S m) (tO S m) = exN S m (tO S m) := st_n (fun q => f.2.2.1 q.symm)
      refine ⟨?_, fun p => ?_⟩
      · rw [posE_st (by omega) (by omega), posE_st (by omega) (by omega), e1]
        have := ih.1
        unfold mx
        split <;> split <;> split <;> split <;> omega
      · rw [e1]
        by_cases a : p = tO S m
        · rw [a, st_s]
          have := ih.2 (tO S m)
          omega
        · rw [st_n a]
          by_cases b : p = fr S m
          · rw [b, st_s]
            have := ih.2 (fr S m)
            omega
          · rw [st_n b]
            have := ih.2 p
            omega
    · refine ⟨by have := ih.1; omega, fun p => by have := ih.2 p; omega⟩
theorem LI_0 {S : Int → Int} (hI : Inv S) : LI S (fun _ => 0) (ex0 S) ∧ posE (ex0 S) ≤ 40000 := by
  have hn := hI.2.1
  have h := exN_ok hI (S 1).toNat (by omega)
  refine ⟨⟨fun k h0 h1 => ?_, ⟨fun _ => 0, fun _ => Int.le_refl _, fun _ _ _ _ => rfl, fun a b c w hw => ?_⟩, fun p h0 h1 => ?_⟩, ?_⟩
  · have f := hI.2.2 k h0 h1
    exact ⟨Int.le_refl _, f.2.2.2.1.1, fun _ => rfl⟩
  · obtain ⟨k, h0, h1, hd, h2⟩ := hw
    have f := hI.2.2 k h0 h1
    rcases h2 with h2 | h2
    · have := h2.2.2.2.1
      have := h2.2.2.2.2
      show (0 : Int) ≤ 0 + c
      omega
    · have h3 : (0 : Int) < 0 := h2.1
      omega
  · have := h.2 p
    unfold ex0
    omega
  · have := h.1
    unfold ex0
    omega
/-- what stays at least, and its cost -/
def LX (S : Int → Int) : Int → Int := LC S 40000 (fun _ => 0) (ex0 S)
def leastS (S : Int → Int) : Int := sumZ (fun k => if di S k = 0 then LX S k * ra S k else am S k * ra S k) (S 1)
theorem LC_XB {S : Int → Int} (hI : Inv S) : ∀ (n : Nat) (x e : Int → Int), LI S x e → XB S (LC S n x e)
  | 0, _, _, h => h.1
  | n + 1, x, e, h => by
    rw [LC]
    split
    · exact h.1
    · rename_i c
      have z := near_ok (meas S x e).1 e
      exact LC_XB hI n _ _ (nxt_ok hI h (by omega) (by omega) (by omega) (by omega)).1
theorem rnd_fix {S x : Int → Int} {s : (Int → Int) × (Int → Int)} (h : rnd S x s = s) : ∀ r : Nat, rnds S x r s = s
  | 0 => rfl
  | r + 1 => by rw [rnds, rnd_fix h r, h]
theorem rnds_add {S x : Int → Int} {s : (Int → Int) × (Int → Int)} (a : Nat) : ∀ b : Nat, rnds S x (b + a) s = rnds S x b (rnds S x a s)
  | 0 => by rw [Nat.zero_add]; rfl
  | b + 1 => by rw [show b + 1 + a = (b + a) + 1 by omega, rnds, rnds_add a b, rnds]
theorem leastS_bd {S : Int → Int} (hI : Inv S) : 0 ≤ leastS S ∧ leastS S ≤ 360000 := by
  have hx := LC_XB hI 40000 _ _ (LI_0 hI).1
  have := sumZ_bd (f := fun k => if di S k = 0 then LX S k * ra S k else am S k * ra S k) (a := 0) (b := 9000) hI.2.1.1 (fun k h0 h1 => by
    have f := hI.2.2 k h0 h1
    have g : 0 ≤ LX S k ∧ LX S k ≤ am S k ∧ _ := hx k h0 h1
    have hm : ∀ a b : Int, 0 ≤ a → a ≤ 1000 → 1 ≤ b → b ≤ 9 → 0 ≤ a * b ∧ a * b ≤ 9000 := fun a b a0 a1 b0 b1 => ⟨Int.mul_nonneg a0 (by omega), by
      have := Int.mul_le_mul (a := a) (b := b) (c := 1000) (d := 9) a1 b1 (by omega) (by omega)
      omega⟩
    split
    · exact hm _ _ g.1 (by omega) f.2.2.2.2.1.1 f.2.2.2.2.1.2
    · exact hm _ _ f.2.2.2.1.1 (by omega) f.2.2.2.2.1.1 f.2.2.2.2.1.2)
  have := hI.2.1
  unfold leastS
  omega
