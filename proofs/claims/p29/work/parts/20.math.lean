/-! sums over lists, the promises of a debt in the order of release, what a part of it costs, its release -/
def sumL (f : Int → Int) : List Int → Int
  | [] => 0
  | k :: t => f k + sumL f t
theorem sumL_app (f : Int → Int) : ∀ (a b : List Int), sumL f (a ++ b) = sumL f a + sumL f b
  | [], b => by simp [sumL]
  | k :: t, b => by
    have := sumL_app f t b
    simp only [List.cons_append, sumL]
    omega
theorem sumL_nn {f : Int → Int} : ∀ {l : List Int}, (∀ k ∈ l, 0 ≤ f k) → 0 ≤ sumL f l
  | [], _ => by simp [sumL]
  | k :: t, h => by
    have h1 := h k List.mem_cons_self
    have h2 := sumL_nn (l := t) (fun x hx => h x (List.mem_cons_of_mem _ hx))
    simp only [sumL]
    omega
theorem sumL_congr {f g : Int → Int} : ∀ {l : List Int}, (∀ k ∈ l, f k = g k) → sumL f l = sumL g l
  | [], _ => rfl
  | k :: t, h => by
    have h1 := h k List.mem_cons_self
    have h2 := sumL_congr (l := t) (fun x hx => h x (List.mem_cons_of_mem _ hx))
    simp only [sumL]
    omega
/-- those of n - m .. n - 1 that c tells, in their order -/
def lsN (c : Int → Bool) (n : Int) : Nat → List Int
  | 0 => []
  | m + 1 => if c (n - (m + 1)) = true then (n - (m + 1)) :: lsN c n m else lsN c n m
theorem lsN_mem {c : Int → Bool} {n : Int} : ∀ {m : Nat} {k : Int}, k ∈ lsN c n m → c k = true ∧ n - m ≤ k ∧ k < n
  | 0, k, h => by simp [lsN] at h
  | m + 1, k, h => by
    unfold lsN at h
    split at h
    · rename_i hc
      rcases List.mem_cons.mp h with rfl | h
      · exact ⟨hc, by omega, by omega⟩
      · have := lsN_mem h
        exact ⟨this.1, by omega, this.2.2⟩
    · have := lsN_mem h
      exact ⟨this.1, by omega, this.2.2⟩
theorem lsN_nd {c : Int → Bool} {n : Int} : ∀ (m : Nat), (lsN c n m).Nodup
  | 0 => by simp [lsN]
  | m + 1 => by
    unfold lsN
    split
    · refine List.nodup_cons.mpr ⟨fun h => ?_, lsN_nd m⟩
      have := lsN_mem h
      omega
    · exact lsN_nd m
theorem lsN_congr {c c' : Int → Bool} {n : Int} : ∀ (m : Nat), (∀ k : Int, n - m ≤ k → k < n → c k = c' k) → lsN c n m = lsN c' n m
  | 0, _ => rfl
  | m + 1, h => by
    have h1 := h (n - (m + 1)) (by omega) (by omega)
    have h2 := lsN_congr m (fun k h0 h1 => h k (by omega) h1)
    simp only [lsN, h1, h2]
theorem sumL_lsN (f : Int → Int) (c : Int → Bool) {n : Int} (hn : 0 ≤ n) : ∀ (m : Nat), m ≤ n.toNat → sumL f (lsN c n m) + sumN (fun k => if c k = true then f k else 0) (n.toNat - m) = sumZ (fun k => if c k = true then f k else 0) n
  | 0, _ => by simp [sumL, lsN, sumZ]
  | m + 1, h => by
    have ih := sumL_lsN f c hn m (by omega)
    rw [show n.toNat - m = (n.toNat - (m + 1)) + 1 by omega, sumN, show ((n.toNat - (m + 1) : Nat) : Int) = n - (m + 1) by omega] at ih
    rw [← ih]
    rw [lsN]
    by_cases hc : c (n - (m + 1)) = true
    · rw [if_pos hc, if_pos hc, sumL]
      omega
    · rw [if_neg hc, if_neg hc]
      omega
theorem sumL_ls (f : Int → Int) (c : Int → Bool) {n : Int} (hn : 0 ≤ n) : sumL f (lsN c n n.toNat) = sumZ (fun k => if c k = true then f k else 0) n := by
  have := sumL_lsN f c hn n.toNat (Nat.le_refl _)
  rw [Nat.sub_self, sumN] at this
  omega
theorem sumN_add (f g : Int → Int) : ∀ n : Nat, sumN f n + sumN g n = sumN (fun k => f k + g k) n
  | 0 => rfl
  | n + 1 => by
    have := sumN_add f g n
    simp only [sumN]
    omega
theorem sumZ_add (f g : Int → Int) (n : Int) : sumZ f n + sumZ g n = sumZ (fun k => f k + g k) n := sumN_add f g _
def cnd (S : Int → Int) (q r k : Int) : Bool := decide (di S k = 0 ∧ 0 < am S k ∧ fr S k * 7 + tO S k = q ∧ ra S k = r)
/-- the promises of the debt q that can be released, by rates from r down, then by their numbers -/
def chR (S : Int → Int) (q : Int) : Nat → List Int
  | 0 => []
  | r + 1 => lsN (cnd S q (r + 1)) (S 1) (S 1).toNat ++ chR S q r
def ow (S : Int → Int) (q k : Int) : Prop := di S k = 0 ∧ 0 < am S k ∧ fr S k * 7 + tO S k = q
theorem chR_mem {S : Int → Int} {q k : Int} : ∀ {r : Nat}, k ∈ chR S q r → 0 ≤ S 1 → ow S q k ∧ 0 ≤ k ∧ k < S 1 ∧ 1 ≤ ra S k ∧ ra S k ≤ r
  | 0, h, _ => by simp [chR] at h
  | r + 1, h, hn => by
    rcases List.mem_append.mp h with h | h
    · have := lsN_mem h
      have h1 := of_decide_eq_true this.1
      exact ⟨⟨h1.1, h1.2.1, h1.2.2.1⟩, by omega, this.2.2, by omega, by omega⟩
    · have := chR_mem h hn
      exact ⟨this.1, this.2.1, this.2.2.1, this.2.2.2.1, by omega⟩
theorem chR_nd {S : Int → Int} {q : Int} (hn : 0 ≤ S 1) : ∀ (r : Nat), (chR S q r).Nodup
  | 0 => by simp [chR]
  | r + 1 => by
    unfold chR
    refine List.nodup_append.mpr ⟨lsN_nd _, chR_nd hn r, fun a ha b hb e => ?_⟩
    subst e
    have h1 := of_decide_eq_true (lsN_mem ha).1
    have h2 := chR_mem hb hn
    omega
theorem sumL_chR (f : Int → Int) {S : Int → Int} (hI : Inv S) (q : Int) : ∀ (r : Nat), sumL f (chR S q r) = sumZ (fun k => if (di S k = 0 ∧ 0 < am S k ∧ fr S k * 7 + tO S k = q) ∧ ra S k ≤ r then f k else 0) (S 1)
  | 0 => by
    rw [chR, sumL, show sumZ _ (S 1) = sumZ (fun _ => 0) (S 1) from sumZ_congr (fun k h0 h1 => if_neg (by have := hI.2.2 k h0 h1; omega))]
    have := sumZ_bd (f := fun _ => (0 : Int)) (a := 0) (b := 0) hI.2.1.1 (fun _ _ _ => ⟨Int.le_refl _, Int.le_refl _⟩)
    omega
  | r + 1 => by
    rw [chR, sumL_app, sumL_chR f hI q r, sumL_ls f _ hI.2.1.1, sumZ_add]
    refine sumZ_congr (fun k h0 h1 => ?_)
    simp only [cnd, decide_eq_true_eq]
    by_cases a : di S k = 0 ∧ 0 < am S k ∧ fr S k * 7 + tO S k = q
    · by_cases b : ra S k = r + 1
      · rw [if_pos ⟨a.1, a.2.1, a.2.2, b⟩, if_neg (by omega), if_pos ⟨a, by omega⟩]
        omega
      · rw [if_neg (by omega)]
        by_cases c : ra S k ≤ r
        · rw [if_pos ⟨a, c⟩, if_pos ⟨a, by omega⟩]
          omega
        · rw [if_neg (by omega), if_neg (by omega)]
          omega
    · rw [if_neg (by omega), if_neg (by omega), if_neg (by omega)]
      omega
/-- a debt, by its number 7 a + b -/
def dQ (S : Int → Int) (q : Int) : Int := sumZ (fun k => if di S k = 0 ∧ fr S k * 7 + tO S k = q then am S k else 0) (S 1)
/-- the part of it that has the rate r -/
def bQ (S : Int → Int) (q r : Int) : Int := sumZ (fun k => if di S k = 0 ∧ fr S k * 7 + tO S k = q ∧ ra S k = r then am S k else 0) (S 1)
theorem chR_sum {S : Int → Int} (hI : Inv S) (q : Int) : sumL (am S) (chR S q 9) = dQ S q := by
  rw [sumL_chR _ hI]
  refine sumZ_congr (fun k h0 h1 => ?_)
  have := hI.2.2 k h0 h1
  by_cases a : di S k = 0 ∧ fr S k * 7 + tO S k = q
  · rw [if_pos a]
    by_cases b : 0 < am S k
    · rw [if_pos ⟨⟨a.1, b, a.2⟩, by omega⟩]
    · rw [if_neg (by omega)]
      omega
  · rw [if_neg a, if_neg (by omega)]
theorem ls_sum {S : Int → Int} (hI : Inv S) (q r : Int) : sumL (am S) (lsN (cnd S q r) (S 1) (S 1).toNat) = bQ S q r := by
  rw [sumL_ls _ _ hI.2.1.1]
  refine sumZ_congr (fun k h0 h1 => ?_)
  have := hI.2.2 k h0 h1
  simp only [cnd, decide_eq_true_eq]
  by_cases a : di S k = 0 ∧ fr S k * 7 + tO S k = q ∧ ra S k = r
  · rw [if_pos a]
    by_cases b : 0 < am S k
    · rw [if_pos ⟨a.1, b, a.2⟩]
    · rw [if_neg (by omega)]
      omega
  · rw [if_neg a, if_neg (by omega)]
theorem chR_len {S : Int → Int} (hI : Inv S) (q : Int) : ((chR S q 9).length : Int) ≤ S 1 := by
  have e : ∀ l : List Int, ((l.length : Nat) : Int) = sumL (fun _ => 1) l := by
    intro l
    induction l with
    | nil => rfl
    | cons a t ih => simp only [List.length_cons, sumL]; omega
  rw [e, sumL_chR _ hI]
  have := (sumZ_bd (f := fun k => if (di S k = 0 ∧ 0 < am S k ∧ fr S k * 7 + tO S k = q) ∧ ra S k ≤ (9 : Nat) then (1 : Int) else 0) (a := 0) (b := 1) hI.2.1.1 (fun k _ _ => by split <;> omega)).2
  omega
theorem dQ_bd {S : Int → Int} (h : Inv S) (q : Int) : 0 ≤ dQ S q ∧ dQ S q ≤ 40000 := by
  have := sumZ_bd (f := fun k => if di S k = 0 ∧ fr S k * 7 + tO S k = q then am S k else 0) (a := 0) (b := 1000) h.2.1.1 (fun k h0 h1 => by
    have := (h.2.2 k h0 h1).2.2.2.1
    split <;> omega)
  have := h.2.1
  unfold dQ
  omega
theorem bQ_bd {S : Int → Int} (h : Inv S) (q r : Int) : 0 ≤ bQ S q r ∧ bQ S q r ≤ 40000 := by
  have := sumZ_bd (f := fun k => if di S k = 0 ∧ fr S k * 7 + tO S k = q ∧ ra S k = r then am S k else 0) (a := 0) (b := 1000) h.2.1.1 (fun k h0 h1 => by
    have := (h.2.2 k h0 h1).2.2.2.1
    split <;> omega)
  have := h.2.1
  unfold bQ
  omega
theorem debS_dQ {S : Int → Int} (h : Inv S) {a b : Int} (ha : 0 ≤ a ∧ a < 7) (hb : 0 ≤ b ∧ b < 7) : debS S a b = dQ S (7 * a + b) := by
  refine sumZ_congr (fun k h0 h1 => ?_)
  have f := h.2.2 k h0 h1
  have g := h.1
  unfold debF
  by_cases c : fr S k = a ∧ tO S k = b ∧ di S k = 0
  · rw [if_pos c, if_pos (by omega)]
  · rw [if_neg c, if_neg (by omega)]
/-! what a part costs -/
def gcL (a r : Int → Int) : List Int → Int → Int
  | [], _ => 0
  | k :: t, left => min left (a k) * r k + gcL a r t (left - min left (a k))
def gcR (B : Int → Int) : Nat → Int → Int
  | 0, _ => 0
  | r + 1, left => min left (B (r + 1)) * (r + 1) + gcR B r (left - min left (B (r + 1)))
theorem gcL_app {a r : Int → Int} : ∀ (l1 l2 : List Int) (left : Int), 0 ≤ left → (∀ k ∈ l1, 0 ≤ a k) → gcL a r (l1 ++ l2) left = gcL a r l1 left + gcL a r l2 (left - min left (sumL a l1))
  | [], l2, left, h0, _ => by
    simp only [List.nil_append, gcL, sumL]
    rw [show left - min left 0 = left by omega]
    omega
  | k :: t, l2, left, h0, h => by
    have h1 := h k List.mem_cons_self
    have hs := sumL_nn (f := a) (l := t) (fun x hx => h x (List.mem_cons_of_mem _ hx))
    have ih := gcL_app (a := a) (r := r) t l2 (left - min left (a k)) (by omega) (fun x hx => h x (List.mem_cons_of_mem _ hx))
    simp only [List.cons_append, gcL, sumL]
    rw [ih, show left - min left (a k) - min (left - min left (a k)) (sumL a t) = left - min left (a k + sumL a t) by omega]
    omega
theorem gcL_const {a r : Int → Int} {c : Int} : ∀ (l : List Int) (left : Int), 0 ≤ left → (∀ k ∈ l, 0 ≤ a k ∧ r k = c) → gcL a r l left = min left (sumL a l) * c
  | [], left, h0, _ => by
    simp only [gcL, sumL]
    rw [show min left 0 = 0 by omega, Int.zero_mul]
  | k :: t, left, h0, h => by
    have h1 := h k List.mem_cons_self
    have hs := sumL_nn (f := a) (l := t) (fun x hx => (h x (List.mem_cons_of_mem _ hx)).1)
    have ih := gcL_const (a := a) (r := r) (c := c) t (left - min left (a k)) (by omega) (fun x hx => h x (List.mem_cons_of_mem _ hx))
    simp only [gcL, sumL]
    rw [ih, h1.2, ← Int.add_mul, show min left (a k) + min (left - min left (a k)) (sumL a t) = min left (a k + sumL a t) by omega]
theorem gcL_chR {S : Int → Int} (hI : Inv S) (q : Int) : ∀ (r : Nat) (left : Int), 0 ≤ left → gcL (am S) (ra S) (chR S q r) left = gcR (bQ S q) r left
  | 0, left, _ => rfl
  | r + 1, left, h0 => by
    have hm : ∀ k ∈ lsN (cnd S q (r + 1)) (S 1) (S 1).toNat, 0 ≤ am S k ∧ ra S k = r + 1 := fun k hk => by
      have := of_decide_eq_true (lsN_mem hk).1
      omega
    have hb := bQ_bd hI q (r + 1)
    rw [chR, gcL_app _ _ _ h0 (fun k hk => (hm k hk).1), gcL_const _ _ h0 hm, ls_sum hI, gcL_chR hI q r _ (by omega), gcR]
theorem gcL_0 {a r : Int → Int} : ∀ (l : List Int), (∀ k ∈ l, 0 ≤ a k) → gcL a r l 0 = 0
  | [], _ => rfl
  | k :: t, h => by
    have h1 := h k List.mem_cons_self
    have ih := gcL_0 (a := a) (r := r) t (fun x hx => h x (List.mem_cons_of_mem _ hx))
    rw [gcL, show min 0 (a k) = 0 by omega, Int.zero_mul, show (0 : Int) - 0 = 0 by omega, ih]
    rfl
/-- what a part of the debt q costs that is released -/
def cQ (S : Int → Int) (q amt : Int) : Int := gcR (bQ S q) 9 amt
theorem gcR_bd {B : Int → Int} : ∀ (r : Nat) (left : Int), 0 ≤ left → (∀ k, 0 ≤ B k) → 0 ≤ gcR B r left ∧ gcR B r left ≤ left * r
  | 0, left, h0, _ => by simp [gcR]
  | r + 1, left, h0, hB => by
    have h1 := hB (r + 1)
    have ih := gcR_bd (B := B) r (left - min left (B (r + 1))) (by omega) hB
    rw [gcR]
    have h2 : (0 : Int) ≤ min left (B (r + 1)) := by omega
    have h3 : 0 ≤ min left (B (r + 1)) * ((r : Int) + 1) := Int.mul_nonneg h2 (by omega)
    refine ⟨by omega, ?_⟩
    have h4 : min left (B (r + 1)) * ((r : Int) + 1) = min left (B (r + 1)) * r + min left (B (r + 1)) := by rw [Int.mul_add, Int.mul_one]
    have h5 : (left - min left (B (r + 1))) * (r : Int) = left * r - min left (B (r + 1)) * r := Int.sub_mul _ _ _
    have h6 : left * ((r + 1 : Nat) : Int) = left * r + left := by
      rw [show ((r + 1 : Nat) : Int) = (r : Int) + 1 by omega, Int.mul_add, Int.mul_one]
    omega
/-! a release -/
def rel1 (S : Int → Int) (k x : Int) : Int → Int := st (st S (7 + 8 * k) (am S k - x)) (12 + 8 * k) (re S k + x)
def relC (S : Int → Int) : List Int → Int → (Int → Int)
  | [], _ => S
  | k :: t, left => relC (rel1 S k (min left (am S k))) t (left - min left (am S k))
theorem rel1_am (S : Int → Int) (k x j : Int) : am (rel1 S k x) j = if j = k then am S k - x else am S j := by
  unfold am rel1
  rw [st_n (by omega)]
  by_cases h : j = k
  · rw [if_pos h, h]; exact st_s _ _ _
  · rw [if_neg h]; exact st_n (by omega)
theorem rel1_o (S : Int → Int) (k x i : Int) (h1 : i ≠ 7 + 8 * k) (h2 : i ≠ 12 + 8 * k) : rel1 S k x i = S i := by
  unfold rel1
  rw [st_n h2, st_n h1]
theorem rel1_0 (S : Int → Int) (k : Int) : rel1 S k 0 = S := by
  funext j
  unfold rel1 st am re
  by_cases h : j = 12 + 8 * k
  · rw [if_pos h, h]; omega
  · rw [if_neg h]
    by_cases h2 : j = 7 + 8 * k
    · rw [if_pos h2, h2]; omega
    · rw [if_neg h2]
/-- what a release leaves: all but the amounts and what was released of them -/
def Lv (S T : Int → Int) : Prop := (∀ i : Int, 0 ≤ i → i < 5 → T i = S i) ∧ ∀ k : Int, 0 ≤ k → fr T k = fr S k ∧ tO T k = tO S k ∧ ra T k = ra S k ∧ di T k = di S k ∧ fi T k = fi S k ∧ pa T k = pa S k
theorem Lv_rfl (S : Int → Int) : Lv S S := ⟨fun _ _ _ => rfl, fun _ _ => ⟨rfl, rfl, rfl, rfl, rfl, rfl⟩⟩
theorem Lv_tr {S T U : Int → Int} (h : Lv S T) (g : Lv T U) : Lv S U := ⟨fun i h0 h1 => (g.1 i h0 h1).trans (h.1 i h0 h1), fun k hk => by
  have a := h.2 k hk
  have b := g.2 k hk
  exact ⟨b.1.trans a.1, b.2.1.trans a.2.1, b.2.2.1.trans a.2.2.1, b.2.2.2.1.trans a.2.2.2.1, b.2.2.2.2.1.trans a.2.2.2.2.1, b.2.2.2.2.2.trans a.2.2.2.2.2⟩⟩
theorem rel1_Lv (S : Int → Int) {k : Int} (x : Int) (hk : 0 ≤ k) : Lv S (rel1 S k x) := ⟨fun i h0 h1 => rel1_o _ _ _ _ (by omega) (by omega), fun j _ => ⟨rel1_o _ _ _ _ (by omega) (by omega), rel1_o _ _ _ _ (by omega) (by omega), rel1_o _ _ _ _ (by omega) (by omega), rel1_o _ _ _ _ (by omega) (by omega), rel1_o _ _ _ _ (by omega) (by omega), rel1_o _ _ _ _ (by omega) (by omega)⟩⟩
theorem relC_Lv : ∀ (l : List Int) (S : Int → Int) (left : Int), (∀ k ∈ l, 0 ≤ k) → Lv S (relC S l left)
  | [], S, _, _ => Lv_rfl S
  | k :: t, S, left, h => Lv_tr (rel1_Lv S _ (h k List.mem_cons_self)) (relC_Lv t _ _ (fun x hx => h x (List.mem_cons_of_mem _ hx)))
theorem relC_am : ∀ (l : List Int) (S : Int → Int) (left j : Int), j ∉ l → am (relC S l left) j = am S j
  | [], _, _, _, _ => rfl
  | k :: t, S, left, j, h => by
    rw [relC, relC_am t _ _ j (fun q => h (List.mem_cons_of_mem _ q)), rel1_am, if_neg (fun e => h (by rw [e]; exact List.mem_cons_self))]
theorem relC_bd : ∀ (l : List Int) (S : Int → Int) (left : Int), 0 ≤ left → ∀ j : Int, (∀ k ∈ l, 0 ≤ am S k) → 0 ≤ am S j → 0 ≤ am (relC S l left) j ∧ am (relC S l left) j ≤ am S j
  | [], _, _, _, _, _, h => ⟨h, Int.le_refl _⟩
  | k :: t, S, left, h0, j, hl, h => by
    have hk := hl k List.mem_cons_self
    have e : ∀ i, am (rel1 S k (min left (am S k))) i = if i = k then am S k - min left (am S k) else am S i := rel1_am S k _
    have ih := relC_bd t (rel1 S k (min left (am S k))) (left - min left (am S k)) (by omega) j (fun i hi => by
      rw [e]
      have := hl i (List.mem_cons_of_mem _ hi)
      split <;> omega) (by rw [e]; split <;> omega)
    rw [relC]
    rw [e] at ih
    split at ih
    · rename_i q
      subst q
      omega
    · omega
theorem relC_0 : ∀ (l : List Int) (S : Int → Int), (∀ k ∈ l, 0 ≤ am S k) → relC S l 0 = S
  | [], _, _ => rfl
  | k :: t, S, h => by
    have := h k List.mem_cons_self
    rw [relC, show min 0 (am S k) = 0 by omega, rel1_0, show (0 : Int) - 0 = 0 by omega]
    exact relC_0 t S (fun x hx => h x (List.mem_cons_of_mem _ hx))
theorem sumN_one {f g : Int → Int} {k : Int} (hk : 0 ≤ k) (h : ∀ j : Int, 0 ≤ j → j ≠ k → f j = g j) : ∀ n : Nat, sumN f n - sumN g n = if k < n then f k - g k else 0
  | 0 => by
    rw [if_neg (by omega)]
    rfl
  | n + 1 => by
    have ih := sumN_one hk h n
    simp only [sumN]
    by_cases c : k = n
    · subst c
      rw [if_neg (by omega)] at ih
      rw [if_pos (by omega)]
      omega
    · rw [h n (by omega) (fun e => c e.symm)]
      by_cases d : k < n
      · rw [if_pos d] at ih
        rw [if_pos (by omega)]
        omega
      · rw [if_neg d] at ih
        rw [if_neg (by omega)]
        omega
theorem sumZ_one {f g : Int → Int} {k n : Int} (hk : 0 ≤ k) (hn : k < n) (h : ∀ j : Int, 0 ≤ j → j ≠ k → f j = g j) : sumZ f n = sumZ g n + f k - g k := by
  have := sumN_one hk h n.toNat
  rw [if_pos (by omega)] at this
  unfold sumZ
  omega
theorem relC_dQ : ∀ (l : List Int) (S : Int → Int) (q left : Int), l.Nodup → 0 ≤ left → (∀ k ∈ l, ow S q k ∧ 0 ≤ k ∧ k < S 1) → dQ (relC S l left) q = dQ S q - min left (sumL (am S) l)
  | [], S, q, left, _, h0, _ => by
    simp only [relC, sumL]
    omega
  | k :: t, S, q, left, hn, h0, h => by
    have hk := h k List.mem_cons_self
    have hkd := List.nodup_cons.mp hn
    have hL := rel1_Lv S (min left (am S k)) hk.2.1
    have e1 : rel1 S k (min left (am S k)) 1 = S 1 := hL.1 1 (by omega) (by omega)
    have hk1 := hk.1.2.1
    have ea : ∀ i, i ≠ k → am (rel1 S k (min left (am S k))) i = am S i := fun i hi => by rw [rel1_am, if_neg hi]
    have eo : ∀ i, i ∈ t → i ≠ k := fun i hi e => hkd.1 (e ▸ hi)
    have ih := relC_dQ t (rel1 S k (min left (am S k))) q (left - min left (am S k)) hkd.2 (by omega) (fun i hi => by
      have g := h i (List.mem_cons_of_mem _ hi)
      have a := hL.2 i g.2.1
      refine ⟨⟨a.2.2.2.1.trans g.1.1, by rw [ea i (eo i hi)]; exact g.1.2.1, by rw [a.1, a.2.1]; exact g.1.2.2⟩, g.2.1, by rw [e1]; exact g.2.2⟩)
    have hs := sumL_nn (f := am S) (l := t) (fun i hi => by have := (h i (List.mem_cons_of_mem _ hi)).1.2.1; omega)
    rw [relC, ih, sumL_congr (g := am S) (fun i hi => ea i (eo i hi)), sumL]
    have ed : dQ (rel1 S k (min left (am S k))) q = dQ S q - min left (am S k) := by
      unfold dQ
      rw [e1, sumZ_one (g := fun k => if di S k = 0 ∧ fr S k * 7 + tO S k = q then am S k else 0) hk.2.1 hk.2.2 (fun j hj hjk => by
        have a := hL.2 j hj
        rw [a.1, a.2.1, a.2.2.2.1, ea j hjk])]
      have a := hL.2 k hk.2.1
      rw [a.1, a.2.1, a.2.2.2.1, if_pos ⟨hk.1.1, hk.1.2.2⟩, if_pos ⟨hk.1.1, hk.1.2.2⟩, rel1_am, if_pos rfl]
      omega
    rw [ed]
    omega
theorem relC_dQ' : ∀ (l : List Int) (S : Int → Int) (q q' left : Int), q ≠ q' → (∀ k ∈ l, ow S q k ∧ 0 ≤ k) → dQ (relC S l left) q' = dQ S q' := by
  intro l S q q' left hq h
  have hL := relC_Lv l S left (fun k hk => (h k hk).2)
  unfold dQ
  rw [hL.1 1 (by omega) (by omega)]
  refine sumZ_congr (fun k h0 h1 => ?_)
  have a := hL.2 k h0
  rw [a.1, a.2.1, a.2.2.2.1]
  by_cases c : di S k = 0 ∧ fr S k * 7 + tO S k = q'
  · rw [if_pos c, if_pos c]
    refine relC_am l S left k (fun hk => ?_)
    have := (h k hk).1.2.2
    omega
  · rw [if_neg c, if_neg c]
theorem chR_congr {S T : Int → Int} {q : Int} (h1 : T 1 = S 1) (hn : 0 ≤ S 1) (h : ∀ k : Int, 0 ≤ k → k < S 1 → fr T k = fr S k ∧ tO T k = tO S k ∧ ra T k = ra S k ∧ di T k = di S k ∧ (fr S k * 7 + tO S k = q → am T k = am S k)) : ∀ r : Nat, chR T q r = chR S q r
  | 0 => rfl
  | r + 1 => by
    rw [chR, chR, chR_congr h1 hn h r, h1]
    rw [lsN_congr (c' := cnd S q (r + 1)) _ (fun k h0 h2 => ?_)]
    have a := h k (by omega) h2
    unfold cnd
    rw [a.1, a.2.1, a.2.2.1, a.2.2.2.1]
    by_cases c : fr S k * 7 + tO S k = q
    · rw [a.2.2.2.2 c]
    · exact decide_eq_decide.mpr ⟨fun z => absurd z.2.2.1 c, fun z => absurd z.2.2.1 c⟩
