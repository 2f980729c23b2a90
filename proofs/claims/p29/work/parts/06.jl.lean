/-! THE J LAYER: the kit's rows with ints as Int, arrays as functions on Int, worlds as lists of blocks, the machine's things in one bundle -/
def iI (x : Int) : Int32 := Int32.ofInt x
def lI (x : Int) : Int64 := Int64.ofInt x
theorem iI_add (a b : Int) : iI a + iI b = iI (a + b) := (Int32.ofInt_add a b).symm
theorem iI_sub (a b : Int) : iI a - iI b = iI (a - b) := (Int32.ofInt_sub a b).symm
theorem iI_mul (a b : Int) : iI a * iI b = iI (a * b) := (Int32.ofInt_mul a b).symm
theorem iI_neg (a : Int) : -iI a = iI (-a) := (Int32.ofInt_neg a).symm
theorem lI_add (a b : Int) : lI a + lI b = lI (a + b) := (Int64.ofInt_add a b).symm
theorem lI_mul (a b : Int) : lI a * lI b = lI (a * b) := (Int64.ofInt_mul a b).symm
theorem iI_toInt {a : Int} (h1 : -2147483648 ≤ a) (h2 : a < 2147483648) : (iI a).toInt = a := Int32.toInt_ofInt_of_le (by omega) (by omega)
theorem iI_of (x : Int32) : ∃ a : Int, (-2147483648 ≤ a ∧ a < 2147483648) ∧ x = iI a := ⟨x.toInt, ⟨by have := Int32.le_toInt x; omega, by have := Int32.toInt_lt x; omega⟩, (Int32.ofInt_toInt x).symm⟩
theorem iI_lt {a b : Int} (h1 : -2147483648 ≤ a) (h2 : a < 2147483648) (h3 : -2147483648 ≤ b) (h4 : b < 2147483648) : iI a < iI b ↔ a < b := by
  rw [Int32.lt_iff_toInt_lt, iI_toInt h1 h2, iI_toInt h3 h4]
theorem iI_le {a b : Int} (h1 : -2147483648 ≤ a) (h2 : a < 2147483648) (h3 : -2147483648 ≤ b) (h4 : b < 2147483648) : iI a ≤ iI b ↔ a ≤ b := by
  rw [Int32.le_iff_toInt_le, iI_toInt h1 h2, iI_toInt h3 h4]
theorem iI_eq {a b : Int} (h1 : -2147483648 ≤ a) (h2 : a < 2147483648) (h3 : -2147483648 ≤ b) (h4 : b < 2147483648) : iI a = iI b ↔ a = b := by
  rw [← Int32.toInt_inj, iI_toInt h1 h2, iI_toInt h3 h4]
theorem iI_zero : (0 : Int32) = iI 0 := by decide
theorem iI_clamp {a : Int} (h0 : 0 ≤ a) (h : a < 2147483648) : ((iI a).toNatClampNeg : Int) = a := by
  show (((iI a).toInt.toNat : Nat) : Int) = a
  rw [iI_toInt (by omega) h]
  omega
theorem vp_in_iI {a : Int} {n : Nat} (h0 : 0 ≤ a) (h : a < n) (hn : n < 2147483648) : vp_in (iI a) n := by
  rw [vp_in_iff, iI_toInt (by omega) (by omega)]
  exact ⟨h0, h⟩
theorem lI_i2l {a : Int} (h1 : -2147483648 ≤ a) (h2 : a < 2147483648) : (iI a).toInt64 = lI a := by
  rw [← Int64.toInt_inj, Int32.toInt_toInt64, iI_toInt h1 h2]
  exact (Int64.toInt_ofInt_of_le (by omega) (by omega)).symm
/-- a function changed at one place -/
def st (f : Int → Int) (i v : Int) : Int → Int := fun j => if j = i then v else f j
theorem st_s (f : Int → Int) (i v : Int) : st f i v i = v := if_pos rfl
theorem st_n {f : Int → Int} {i v j : Int} (h : j ≠ i) : st f i v j = f j := if_neg h
def aJ (c : ClassId) (n : Nat) (f : Int → Int) : va_E := .inl (c, n, .inl (fun j => iI (f (j : Int))))
def lJ (c : ClassId) (n : Nat) (f : Int → Int) : va_E := .inl (c, n, .inr (.inl (fun j => lI (f (j : Int)))))
theorem upd_iI {f : Int → Int} {i v : Int} (h0 : 0 ≤ i) (h : i < 2147483648) : upd (fun j => iI (f (j : Int))) (iI i).toNatClampNeg (iI v) = fun j : Nat => iI (st f i v (j : Int)) := by
  funext j
  have e := iI_clamp h0 h
  unfold upd st
  by_cases hj : j = (iI i).toNatClampNeg
  · rw [if_pos hj, if_pos (by rw [hj]; exact e)]
  · rw [if_neg hj, if_neg (by intro q; apply hj; omega)]
theorem updL_lI {f : Int → Int} {i v : Int} (h0 : 0 ≤ i) (h : i < 2147483648) : vp_updL (fun j => lI (f (j : Int))) (iI i).toNatClampNeg (lI v) = fun j : Nat => lI (st f i v (j : Int)) := by
  funext j
  have e := iI_clamp h0 h
  unfold vp_updL st
  by_cases hj : j = (iI i).toNatClampNeg
  · rw [if_pos hj, if_pos (by rw [hj]; exact e)]
  · rw [if_neg hj, if_neg (by intro q; apply hj; omega)]
/-! the machine's things in one bundle -/
abbrev KT : Type := Program × Launch × Env × Room × State × MethodId × Array Value × List Frame × Method × Code × (Nat → Prop) × va_G × (Nat → ClassId) × (State → Prop)
abbrev kp (K : KT) : Program := K.1
abbrev kl (K : KT) : Launch := K.2.1
abbrev ke (K : KT) : Env := K.2.2.1
abbrev kR (K : KT) : Room := K.2.2.2.1
abbrev ks (K : KT) : State := K.2.2.2.2.1
abbrev km (K : KT) : MethodId := K.2.2.2.2.2.1
abbrev ka (K : KT) : Array Value := K.2.2.2.2.2.2.1
abbrev kb (K : KT) : List Frame := K.2.2.2.2.2.2.2.1
abbrev kM (K : KT) : Method := K.2.2.2.2.2.2.2.2.1
abbrev kc (K : KT) : Code := K.2.2.2.2.2.2.2.2.2.1
abbrev kA (K : KT) : Nat → Prop := K.2.2.2.2.2.2.2.2.2.2.1
abbrev kD (K : KT) : va_G := K.2.2.2.2.2.2.2.2.2.2.2.1
abbrev kC (K : KT) : Nat → ClassId := K.2.2.2.2.2.2.2.2.2.2.2.2.1
abbrev kQ (K : KT) : State → Prop := K.2.2.2.2.2.2.2.2.2.2.2.2.2
def tyA (cA : Nat → ClassId) : List (ClassId × FieldType) := [(cA 0, .int), (cA 1, .boolean), (cA 2, .object "PledgeRings$Book")]
/-! locals by index -/
def asc (lv : List (Option Value)) : List (Nat × Value) := (List.range lv.length).filterMap (fun i => match lv[i]? with | some (some v) => some (i, v) | _ => none)
theorem asc_mem {lv : List (Option Value)} {i : Nat} {v : Value} : (i, v) ∈ asc lv ↔ lv[i]? = some (some v) := by
  unfold asc
  rw [List.mem_filterMap]
  constructor
  · rintro ⟨j, hj, h⟩
    split at h
    · rename_i w hw
      cases h
      exact hw
    · cases h
  · intro h
    refine ⟨i, List.mem_range.mpr (List.getElem?_eq_some_iff.mp h).1, ?_⟩
    rw [h]
def lL (ls : Array Slot) (lv : List (Option Value)) : Prop := lv_has ls lv.length (asc lv)
theorem lL.get {ls : Array Slot} {lv : List (Option Value)} (h : lL ls lv) {i : Nat} {v : Value} (hv : lv[i]? = some (some v)) : ls[i]? = some (.val v) := h.2.2 (i, v) (asc_mem.mpr hv)
theorem lL.mk {ls : Array Slot} {lv : List (Option Value)} (h1 : ls.size = lv.length) (h2 : lv_wf ls) (h : ∀ (i : Nat) (v : Value), lv[i]? = some (some v) → ls[i]? = some (.val v)) : lL ls lv := ⟨h1, h2, fun q hq => h q.1 q.2 (asc_mem.mp hq)⟩
/-- of one word, or nothing known -/
def nc (w : Option Value) : Bool := match w with
  | some v => v.category == 1
  | none => true
theorem lL.st1 {ls : Array Slot} {lv : List (Option Value)} {i : Nat} {v : Value} (h : lv_has ls lv.length ((i, v) :: (asc lv).filter (fun q => !(q.1 == i) && !(q.1 + 1 == i && q.2.category == 2)))) (hc : ∀ w, i ≠ 0 → lv[i - 1]? = some w → nc w = true) : lL ls (lv.set i (some v)) := by
  refine lL.mk (by rw [List.length_set]; exact h.1) h.2.1 (fun j w hj => ?_)
  by_cases e : j = i
  · subst e
    rw [List.getElem?_set] at hj
    rw [if_pos rfl] at hj
    split at hj
    · cases hj
      exact h.2.2 _ List.mem_cons_self
    · cases hj
  · rw [List.getElem?_set_ne (Ne.symm e)] at hj
    refine h.2.2 (j, w) (List.mem_cons_of_mem _ (List.mem_filter.mpr ⟨asc_mem.mpr hj, ?_⟩))
    simp only [Bool.and_eq_true, Bool.not_eq_true', beq_eq_false_iff_ne, ne_eq, Bool.and_eq_false_iff]
    refine ⟨e, ?_⟩
    by_cases e2 : j + 1 = i
    · right
      have := hc (some w) (by omega) (by rw [show i - 1 = j by omega]; exact hj)
      simp only [nc, beq_iff_eq] at this
      omega
    · exact Or.inl e2
theorem lL.st2 {ls : Array Slot} {lv : List (Option Value)} {i : Nat} {v : Value} (h : lv_has ls lv.length ((i, v) :: (asc lv).filter (fun q => !(q.1 == i) && (!(q.1 == i + 1) && !(q.1 + 1 == i && q.2.category == 2))))) (hc : ∀ w, i ≠ 0 → lv[i - 1]? = some w → nc w = true) : lL ls ((lv.set i (some v)).set (i + 1) none) := by
  refine lL.mk (by rw [List.length_set, List.length_set]; exact h.1) h.2.1 (fun j w hj => ?_)
  by_cases e1 : j = i + 1
  · subst e1
    rw [List.getElem?_set] at hj
    rw [if_pos rfl] at hj
    split at hj
    · cases hj
    · cases hj
  · rw [List.getElem?_set_ne (Ne.symm e1)] at hj
    by_cases e : j = i
    · subst e
      rw [List.getElem?_set] at hj
      rw [if_pos rfl] at hj
      split at hj
      · cases hj
        exact h.2.2 _ List.mem_cons_self
      · cases hj
    · rw [List.getElem?_set_ne (Ne.symm e)] at hj
      refine h.2.2 (j, w) (List.mem_cons_of_mem _ (List.mem_filter.mpr ⟨asc_mem.mpr hj, ?_⟩))
      simp only [Bool.and_eq_true, Bool.not_eq_true', beq_eq_false_iff_ne, ne_eq, Bool.and_eq_false_iff]
      refine ⟨e, e1, ?_⟩
      by_cases e2 : j + 1 = i
      · right
        have := hc (some w) (by omega) (by rw [show i - 1 = j by omega]; exact hj)
        simp only [nc, beq_iff_eq] at this
        omega
      · exact Or.inl e2
/-- what the proofs of a method's body say: from here on, with these cells, these locals, this stack, it comes to its end -/
def J (K : KT) (ce sl : Nat) (ws : List va_W) (lv : List (Option Value)) (pc : Nat) (sk : List Value) : Prop :=
  ∀ (H : Heap) (locs : List Loc) (ls : Array Slot), va_P (kD K) vwCl ws.flatten H → va_D (kA K) ws.flatten → va_S (kA K) (ks K).heap H locs → lL ls lv →
    W (kp K) (kl K) (ke K) (kR K) (ks K) (km K) (ka K) (kb K) (kM K) (kc K) H locs ce sl (kQ K) (F0 (km K) pc ls sk)
def nwL : List Cond := lw_tbl.filter (fun w => match w with
  | .fieldLinkNest _ _ _ _ _ _ => true
  | .methodLinkNest _ _ _ _ => true
  | .castable _ _ => true
  | .arrayOver (.object _) => true
  | _ => false)
def NW (s : State) : Prop := ∀ w ∈ nwL, va_Nw w s
theorem NW.warm {s U : State} (hW : s.WarmedH U.vm) (h : NW s) : NW U := by
  intro w hw
  have h1 := h w hw
  have h2 := (List.mem_filter.mp hw).2
  cases w <;> first | exact va_Nw.warmF hW h1 | exact va_Nw.warmM hW h1 | exact va_Nw.warmC hW h1 | (simp at h2; done) | (rename_i t; cases t <;> first | exact va_AO.moved hW.alike h1 | (simp at h2; done))
theorem NW.same {u U : State} (e : u.vm = U.vm) (h : NW u) : NW U := by
  intro w hw
  have h1 := h w hw
  have h2 := (List.mem_filter.mp hw).2
  cases w <;> first | (simp at h2; done) | exact va_Nw.same rfl e h1 | (rename_i t; cases t <;> first | exact va_AO.moved (e ▸ Vm.Alike.refl _) h1 | (simp at h2; done))
/-- what stands fast in a method's body -/
def Cx (K : KT) (cc : ByteArray) (nL : Nat) (own : String) (ret : Option FieldType) (rm : Room) : Prop :=
  (kp K).tables.exec = Jvm.exec ∧ (kc K).code = cc ∧ (kc K).maxLocals = nL ∧ (ks K).vm.findClass own = some (km K).cls ∧ (∀ w ∈ GW, w.before (ka K) (ks K) = true) ∧ (kM K).sig.returnType = ret ∧ (kM K).locks = false ∧ va_K (kD K) vwCl (tyA (kC K)) (ks K) ∧ (∀ q : Nat, (ks K).heap.size ≤ q → kA K q) ∧ kR K = rm ∧ NW (ks K)
/-! worlds: by their cells, whatever their order -/
theorem vaP_mem {D : va_G} {cl : List vw_C} {ws : va_W} {H : Heap} : va_P D cl ws H ↔ ∀ q ∈ ws, va_at D cl q H := by
  constructor
  · intro h q hq
    obtain ⟨k, hk⟩ := List.mem_iff_getElem?.mp hq
    exact h k q hk
  · intro h k q hk
    exact h q (List.mem_of_getElem? hk)
theorem vaD_nd {A : Nat → Prop} {ws : va_W} : va_D A ws ↔ (ws.map (fun q => q.1)).Nodup ∧ ∀ q ∈ ws, A q.1 := by
  constructor
  · rintro ⟨h1, h2⟩
    refine ⟨?_, fun q hq => ?_⟩
    · rw [List.Nodup, List.pairwise_iff_getElem]
      intro i j hi hj hij e
      rw [List.length_map] at hi hj
      rw [List.getElem_map, List.getElem_map] at e
      have := h1 i j _ _ (List.getElem?_eq_getElem hi) (List.getElem?_eq_getElem hj) e
      omega
    · obtain ⟨k, hk⟩ := List.mem_iff_getElem?.mp hq
      exact h2 k q hk
  · rintro ⟨h1, h2⟩
    refine ⟨fun i j p q hi hj e => ?_, fun k q hk => h2 q (List.mem_of_getElem? hk)⟩
    rw [List.Nodup, List.pairwise_iff_getElem] at h1
    obtain ⟨li, ei⟩ := List.getElem?_eq_some_iff.mp hi
    obtain ⟨lj, ej⟩ := List.getElem?_eq_some_iff.mp hj
    rcases Nat.lt_trichotomy i j with c | c | c
    · exact absurd (by rw [List.getElem_map, List.getElem_map, ei, ej]; exact e) (h1 i j (by rw [List.length_map]; exact li) (by rw [List.length_map]; exact lj) c)
    · exact c
    · exact absurd (by rw [List.getElem_map, List.getElem_map, ei, ej]; exact e.symm) (h1 j i (by rw [List.length_map]; exact lj) (by rw [List.length_map]; exact li) c)
theorem vaP_perm {D : va_G} {cl : List vw_C} {w1 w2 : va_W} {H : Heap} (h : w1.Perm w2) (hP : va_P D cl w1 H) : va_P D cl w2 H := vaP_mem.mpr (fun q hq => vaP_mem.mp hP q (h.mem_iff.mpr hq))
theorem vaD_perm {A : Nat → Prop} {w1 w2 : va_W} (h : w1.Perm w2) (hD : va_D A w1) : va_D A w2 := by
  rw [vaD_nd] at hD ⊢
  exact ⟨(h.map _).nodup_iff.mp hD.1, fun q hq => hD.2 q (h.mem_iff.mpr hq)⟩
theorem vaP_l {D : va_G} {cl : List vw_C} {w1 w2 : va_W} {H : Heap} (hP : va_P D cl (w1 ++ w2) H) : va_P D cl w1 H := vaP_mem.mpr (fun q hq => vaP_mem.mp hP q (List.mem_append_left _ hq))
theorem vaP_r {D : va_G} {cl : List vw_C} {w1 w2 : va_W} {H : Heap} (hP : va_P D cl (w1 ++ w2) H) : va_P D cl w2 H := vaP_mem.mpr (fun q hq => vaP_mem.mp hP q (List.mem_append_right _ hq))
theorem vaD_l {A : Nat → Prop} {w1 w2 : va_W} (hD : va_D A (w1 ++ w2)) : va_D A w1 := by
  rw [vaD_nd] at hD ⊢
  rw [List.map_append] at hD
  exact ⟨(List.nodup_append.mp hD.1).1, fun q hq => hD.2 q (List.mem_append_left _ hq)⟩
theorem vaD_r {A : Nat → Prop} {w1 w2 : va_W} (hD : va_D A (w1 ++ w2)) : va_D A w2 := by
  rw [vaD_nd] at hD ⊢
  rw [List.map_append] at hD
  exact ⟨(List.nodup_append.mp hD.1).2.1, fun q hq => hD.2 q (List.mem_append_right _ hq)⟩
theorem vaA_mem {ws : va_W} {sz q : Nat} : va_A ws sz q ↔ (∃ e, (q, e) ∈ ws) ∨ sz ≤ q := by
  constructor
  · rintro (⟨k, e, h⟩ | h)
    · exact Or.inl ⟨e, List.mem_of_getElem? h⟩
    · exact Or.inr h
  · rintro (⟨e, h⟩ | h)
    · obtain ⟨k, hk⟩ := List.mem_iff_getElem?.mp h
      exact Or.inl ⟨k, e, hk⟩
    · exact Or.inr h
theorem vaD_apart {A : Nat → Prop} {w1 w2 : va_W} (hD : va_D A (w1 ++ w2)) {p q : Nat × va_E} (hp : p ∈ w1) (hq : q ∈ w2) : p.1 ≠ q.1 := by
  rw [vaD_nd, List.map_append] at hD
  exact (List.nodup_append.mp hD.1).2.2 p.1 (List.mem_map.mpr ⟨p, hp, rfl⟩) q.1 (List.mem_map.mpr ⟨q, hq, rfl⟩)
/-- behind a call: the callee's cells, and the others as they were -/
theorem wj_join {A0 : Nat → Prop} {D : va_G} {cl : List vw_C} {Wc Wr W1 : va_W} {H H1 : Heap} (hP : va_P D cl (Wc ++ Wr) H) (hD : va_D A0 (Wc ++ Wr))
    (hk : ∀ q : Nat, q < H.size → ¬ va_A Wc H.size q → H1[q]? = H[q]?) (hF : ∀ q, va_A Wc H.size q → A0 q) (hP1 : va_P D cl W1 H1) (hD1 : va_D (va_A Wc H.size) W1) : va_P D cl (W1 ++ Wr) H1 ∧ va_D A0 (W1 ++ Wr) := by
  have ap : ∀ q ∈ Wr, q.1 < H.size ∧ ¬ va_A Wc H.size q.1 := by
    intro q hq
    have hl := (vaP_mem.mp hP q (List.mem_append_right _ hq)).lt
    refine ⟨hl, fun h => ?_⟩
    rcases vaA_mem.mp h with ⟨e, he⟩ | h
    · exact vaD_apart hD he hq rfl
    · omega
  constructor
  · refine va_P.app hP1 (vaP_mem.mpr fun q hq => ?_)
    exact (vaP_mem.mp hP q (List.mem_append_right _ hq)).kept (hk q.1 (ap q hq).1 (ap q hq).2)
  · rw [vaD_nd, List.map_append, List.nodup_append]
    have hr := vaD_nd.mp (vaD_r hD)
    have h1 := vaD_nd.mp hD1
    refine ⟨⟨h1.1, hr.1, ?_⟩, fun q hq => ?_⟩
    · intro x hx y hy e
      obtain ⟨p, hp, rfl⟩ := List.mem_map.mp hx
      obtain ⟨q, hq, rfl⟩ := List.mem_map.mp hy
      exact (ap q hq).2 (by rw [← e]; exact h1.2 p hp)
    · rcases List.mem_append.mp hq with h | h
      · exact hF _ (h1.2 q h)
      · exact hr.2 q h
theorem fl_at {ws : List va_W} {i j : Nat} {B : va_W} {q : Nat × va_E} (hB : ws[i]? = some B) (hj : B[j]? = some q) : ∃ k : Nat, ws.flatten[k]? = some q := List.mem_iff_getElem?.mp (List.mem_flatten.mpr ⟨B, List.mem_of_getElem? hB, List.mem_of_getElem? hj⟩)
theorem fl_pre {pre post : List va_W} {B : va_W} {j : Nat} {q : Nat × va_E} (hj : B[j]? = some q) : (pre ++ B :: post).flatten[pre.flatten.length + j]? = some q := by
  have hl := (List.getElem?_eq_some_iff.mp hj).1
  rw [List.flatten_append, List.flatten_cons, List.getElem?_append_right (by omega), show pre.flatten.length + j - pre.flatten.length = j by omega, List.getElem?_append_left hl]
  exact hj
theorem fl_set {pre post : List va_W} {B : va_W} {j : Nat} {q e : Nat × va_E} (hj : B[j]? = some q) : (pre ++ B :: post).flatten.set (pre.flatten.length + j) e = (pre ++ B.set j e :: post).flatten := by
  have hl := (List.getElem?_eq_some_iff.mp hj).1
  rw [List.flatten_append, List.flatten_cons, List.set_append, if_neg (by omega), show pre.flatten.length + j - pre.flatten.length = j by omega, List.set_append, if_pos hl, List.flatten_append, List.flatten_cons]
section JR
variable {K : KT} {cc : ByteArray} {nL : Nat} {own : String} {ret : Option FieldType} {rm : Room} {ce sl pc : Nat} {ws : List va_W} {lv : List (Option Value)} {sk : List Value}
theorem j_perm {ws' : List va_W} (h : ws.Perm ws') (k : J K ce sl ws' lv pc sk) : J K ce sl ws lv pc sk := fun H locs ls hP hD hS hl => k H locs ls (vaP_perm h.flatten hP) (vaD_perm h.flatten hD) hS hl
theorem j_flat {ws' : List va_W} (h : ws.flatten = ws'.flatten) (k : J K ce sl ws' lv pc sk) : J K ce sl ws lv pc sk := fun H locs ls hP hD hS hl => k H locs ls (h ▸ hP) (h ▸ hD) hS hl
theorem j_drop {B : va_W} (k : J K ce sl ws lv pc sk) : J K ce sl (B :: ws) lv pc sk := fun H locs ls hP hD hS hl => k H locs ls (vaP_r hP) (vaD_r hD) hS hl
theorem j_widen {ce' sl' : Nat} (h1 : ce ≤ ce') (h2 : sl ≤ sl') (k : J K ce' sl' ws lv pc sk) : J K ce sl ws lv pc sk := fun H locs ls hP hD hS hl => W.widen h1 h2 (k H locs ls hP hD hS hl)
theorem j_eq {ws' : List va_W} {lv' : List (Option Value)} {sk' : List Value} (k : J K ce sl ws' lv' pc sk') (h1 : ws' = ws) (h2 : lv' = lv) (h3 : sk' = sk) : J K ce sl ws lv pc sk := h1 ▸ h2 ▸ h3 ▸ k
/-- less known of the locals -/
theorem j_lv {lv' : List (Option Value)} (hn : lv.length = lv'.length) (h : ∀ (i : Nat) (v : Value), lv'[i]? = some (some v) → lv[i]? = some (some v)) (k : J K ce sl ws lv' pc sk) : J K ce sl ws lv pc sk := fun H locs ls hP hD hS hl => k H locs ls hP hD hS (lL.mk (hl.1.trans hn) hl.2.1 (fun i v hv => hl.get (h i v hv)))
theorem j_iconst (C : Cx K cc nL own ret rm) {n : Int} (hd : decode cc pc = .ok (.iconst n, 1)) (k : J K ce sl ws lv (pc + 1) (.int (iI n) :: sk)) : J K ce sl ws lv pc sk := fun H locs ls hP hD hS hl => lv_iconst C.1 C.2.1 hd rfl (k H locs ls hP hD hS hl)
theorem j_bipush (C : Cx K cc nL own ret rm) {n : Int} (hd : decode cc pc = .ok (.bipush n, 2)) (hv : (Int8.ofInt n).toInt32 = iI n) (k : J K ce sl ws lv (pc + 2) (.int (iI n) :: sk)) : J K ce sl ws lv pc sk := fun H locs ls hP hD hS hl => lv_bipush C.1 C.2.1 hd hv (k H locs ls hP hD hS hl)
theorem j_sipush (C : Cx K cc nL own ret rm) {n : Int} (hd : decode cc pc = .ok (.sipush n, 3)) (hv : (Int16.ofInt n).toInt32 = iI n) (k : J K ce sl ws lv (pc + 3) (.int (iI n) :: sk)) : J K ce sl ws lv pc sk := fun H locs ls hP hD hS hl => lv_sipush C.1 C.2.1 hd hv (k H locs ls hP hD hS hl)
theorem j_ldc (C : Cx K cc nL own ret rm) {index : Nat} {v : Int32} (n : Int) (hn : v = iI n) (hw : Cond.constant own index v ∈ GW) (hd : decode cc pc = .ok (.ldc index, 2)) (k : J K ce sl ws lv (pc + 2) (.int (iI n) :: sk)) : J K ce sl ws lv pc sk := fun H locs ls hP hD hS hl => lv_ldc C.1 C.2.1 C.2.2.2.1 (C.2.2.2.2.1 _ hw) hd (hn ▸ k H locs ls hP hD hS hl)
theorem j_ldc2 (C : Cx K cc nL own ret rm) {index : Nat} {v : Int64} (n : Int) (hn : v = lI n) (hw : Cond.constantLong own index v ∈ GW) (hd : decode cc pc = .ok (.ldc2_w index, 3)) (k : J K ce sl ws lv (pc + 3) (.long (lI n) :: sk)) : J K ce sl ws lv pc sk := fun H locs ls hP hD hS hl => lv_ldc2 C.1 C.2.1 C.2.2.2.1 (C.2.2.2.2.1 _ hw) hd (hn ▸ k H locs ls hP hD hS hl)
theorem j_iload_n (C : Cx K cc nL own ret rm) {i : Fin 4} {x : Int32} (hd : decode cc pc = .ok (.iload_n i, 1)) (hv : lv[(i : Nat)]? = some (some (.int x))) (k : J K ce sl ws lv (pc + 1) (.int x :: sk)) : J K ce sl ws lv pc sk := fun H locs ls hP hD hS hl => lv_iload_n C.1 C.2.1 hd rfl (hl.get hv) (k H locs ls hP hD hS hl)
theorem j_iload (C : Cx K cc nL own ret rm) {i : Nat} {x : Int32} (hd : decode cc pc = .ok (.iload i, 2)) (hv : lv[i]? = some (some (.int x))) (k : J K ce sl ws lv (pc + 2) (.int x :: sk)) : J K ce sl ws lv pc sk := fun H locs ls hP hD hS hl => lv_iload C.1 C.2.1 hd (hl.get hv) (k H locs ls hP hD hS hl)
theorem j_lload_n (C : Cx K cc nL own ret rm) {i : Fin 4} {x : Int64} (hd : decode cc pc = .ok (.lload_n i, 1)) (hv : lv[(i : Nat)]? = some (some (.long x))) (k : J K ce sl ws lv (pc + 1) (.long x :: sk)) : J K ce sl ws lv pc sk := fun H locs ls hP hD hS hl => lv_lload_n C.1 C.2.1 hd rfl (hl.get hv) (k H locs ls hP hD hS hl)
theorem j_aload_n (C : Cx K cc nL own ret rm) {i : Fin 4} {x : Nat} (hd : decode cc pc = .ok (.aload_n i, 1)) (hv : lv[(i : Nat)]? = some (some (.ref x))) (k : J K ce sl ws lv (pc + 1) (.ref x :: sk)) : J K ce sl ws lv pc sk := fun H locs ls hP hD hS hl => lv_aload_n C.1 C.2.1 hd rfl (hl.get hv) (k H locs ls hP hD hS hl)
theorem j_aload (C : Cx K cc nL own ret rm) {i : Nat} {x : Nat} (hd : decode cc pc = .ok (.aload i, 2)) (hv : lv[i]? = some (some (.ref x))) (k : J K ce sl ws lv (pc + 2) (.ref x :: sk)) : J K ce sl ws lv pc sk := fun H locs ls hP hD hS hl => lv_aload C.1 C.2.1 hd (hl.get hv) (k H locs ls hP hD hS hl)
theorem lL.len {ls : Array Slot} (hl : lL ls lv) : lv_has ls lv.length (asc lv) := hl
theorem j_istore_nG (C : Cx K cc nL own ret rm) {i : Fin 4} {x : Int32} (hd : decode cc pc = .ok (.istore_n i, 1)) (hi : (i : Nat) < lv.length) (hc : ∀ w, (i : Nat) ≠ 0 → lv[(i : Nat) - 1]? = some w → nc w = true) (k : J K ce sl ws (lv.set i (some (.int x))) (pc + 1) sk) : J K ce sl ws lv pc (.int x :: sk) := fun H locs _ hP hD hS hl => lv_istore_n C.1 C.2.1 hd rfl hl hi rfl (fun ls' h' => k H locs ls' hP hD hS (lL.st1 h' hc))
theorem j_istoreG (C : Cx K cc nL own ret rm) {i : Nat} {x : Int32} (hd : decode cc pc = .ok (.istore i, 2)) (hi : i < lv.length) (hc : ∀ w, i ≠ 0 → lv[i - 1]? = some w → nc w = true) (k : J K ce sl ws (lv.set i (some (.int x))) (pc + 2) sk) : J K ce sl ws lv pc (.int x :: sk) := fun H locs _ hP hD hS hl => lv_istore C.1 C.2.1 hd hl hi rfl (fun ls' h' => k H locs ls' hP hD hS (lL.st1 h' hc))
theorem j_astore_nG (C : Cx K cc nL own ret rm) {i : Fin 4} {x : Nat} (hd : decode cc pc = .ok (.astore_n i, 1)) (hi : (i : Nat) < lv.length) (hc : ∀ w, (i : Nat) ≠ 0 → lv[(i : Nat) - 1]? = some w → nc w = true) (k : J K ce sl ws (lv.set i (some (.ref x))) (pc + 1) sk) : J K ce sl ws lv pc (.ref x :: sk) := fun H locs _ hP hD hS hl => lv_astore_n C.1 C.2.1 hd rfl hl hi rfl (fun ls' h' => k H locs ls' hP hD hS (lL.st1 h' hc))
theorem j_astoreG (C : Cx K cc nL own ret rm) {i : Nat} {x : Nat} (hd : decode cc pc = .ok (.astore i, 2)) (hi : i < lv.length) (hc : ∀ w, i ≠ 0 → lv[i - 1]? = some w → nc w = true) (k : J K ce sl ws (lv.set i (some (.ref x))) (pc + 2) sk) : J K ce sl ws lv pc (.ref x :: sk) := fun H locs _ hP hD hS hl => lv_astore C.1 C.2.1 hd hl hi rfl (fun ls' h' => k H locs ls' hP hD hS (lL.st1 h' hc))
theorem j_lstore_nG (C : Cx K cc nL own ret rm) {i : Fin 4} {x : Int64} (hd : decode cc pc = .ok (.lstore_n i, 1)) (hi : (i : Nat) + 1 < lv.length) (hc : ∀ w, (i : Nat) ≠ 0 → lv[(i : Nat) - 1]? = some w → nc w = true) (k : J K ce sl ws ((lv.set i (some (.long x))).set (i + 1) none) (pc + 1) sk) : J K ce sl ws lv pc (.long x :: sk) := fun H locs _ hP hD hS hl => lv_lstore_n C.1 C.2.1 hd rfl hl hi rfl (fun ls' h' => k H locs ls' hP hD hS (lL.st2 h' hc))
theorem j_iincG (C : Cx K cc nL own ret rm) {i : Nat} {n x : Int} (hd : decode cc pc = .ok (.iinc i n, 3)) (hv : lv[i]? = some (some (.int (iI x)))) (hc : ∀ w, i ≠ 0 → lv[i - 1]? = some w → nc w = true) (k : J K ce sl ws (lv.set i (some (.int (iI (x + n))))) (pc + 3) sk) : J K ce sl ws lv pc sk := fun H locs ls hP hD hS hl => by
  obtain ⟨q, hq⟩ := List.mem_iff_getElem?.mp (asc_mem.mpr hv)
  exact lv_iinc (v := iI (x + n)) C.1 C.2.1 hd hl hq (iI_add x n) (List.getElem?_eq_some_iff.mp hv).1 rfl (fun ls' h' => k H locs ls' hP hD hS (lL.st1 h' hc))
theorem j_iadd (C : Cx K cc nL own ret rm) {x y : Int} (hd : decode cc pc = .ok (.iadd, 1)) (k : J K ce sl ws lv (pc + 1) (.int (iI (x + y)) :: sk)) : J K ce sl ws lv pc (.int (iI y) :: .int (iI x) :: sk) := fun H locs ls hP hD hS hl => lv_iadd C.1 C.2.1 hd (by rw [iI_add]; exact k H locs ls hP hD hS hl)
theorem j_isub (C : Cx K cc nL own ret rm) {x y : Int} (hd : decode cc pc = .ok (.isub, 1)) (k : J K ce sl ws lv (pc + 1) (.int (iI (x - y)) :: sk)) : J K ce sl ws lv pc (.int (iI y) :: .int (iI x) :: sk) := fun H locs ls hP hD hS hl => lv_isub C.1 C.2.1 hd (by rw [iI_sub]; exact k H locs ls hP hD hS hl)
theorem j_imul (C : Cx K cc nL own ret rm) {x y : Int} (hd : decode cc pc = .ok (.imul, 1)) (k : J K ce sl ws lv (pc + 1) (.int (iI (x * y)) :: sk)) : J K ce sl ws lv pc (.int (iI y) :: .int (iI x) :: sk) := fun H locs ls hP hD hS hl => lv_imul C.1 C.2.1 hd (by rw [iI_mul]; exact k H locs ls hP hD hS hl)
theorem j_ineg (C : Cx K cc nL own ret rm) {x : Int} (hd : decode cc pc = .ok (.ineg, 1)) (k : J K ce sl ws lv (pc + 1) (.int (iI (-x)) :: sk)) : J K ce sl ws lv pc (.int (iI x) :: sk) := fun H locs ls hP hD hS hl => lv_ineg C.1 C.2.1 hd (by rw [iI_neg]; exact k H locs ls hP hD hS hl)
theorem iI_div {x y : Int} (h0 : 0 ≤ x) (h1 : x < 2147483648) (h2 : 0 < y) (h3 : y < 2147483648) : iI x / iI y = iI (x / y) := by
  have hq : x / y ≤ x := Int.ediv_le_self _ h0
  have hp : 0 ≤ x / y := Int.ediv_nonneg h0 (by omega)
  rw [← Int32.toInt_inj, iI_toInt (by omega) (by omega)]
  rw [Int32.toInt_div_of_ne_right _ _ (by intro e; have := congrArg Int32.toInt e; rw [iI_toInt (by omega) h3] at this; have h4 : (-1 : Int32).toInt = -1 := (by decide); omega)]
  rw [iI_toInt (by omega) h1, iI_toInt (by omega) h3, Int.tdiv_eq_ediv_of_nonneg h0]
theorem j_idiv (C : Cx K cc nL own ret rm) {x y : Int} (hd : decode cc pc = .ok (.idiv, 1)) (h0 : 0 ≤ x) (h1 : x < 2147483648) (h2 : 0 < y) (h3 : y < 2147483648) (k : J K ce sl ws lv (pc + 1) (.int (iI (x / y)) :: sk)) : J K ce sl ws lv pc (.int (iI y) :: .int (iI x) :: sk) := fun H locs ls hP hD hS hl => lv_idiv C.1 C.2.1 hd (by rw [iI_zero, iI_eq (by omega) h3 (by omega) (by omega)]; omega) (by rw [iI_div h0 h1 h2 h3]; exact k H locs ls hP hD hS hl)
theorem j_irem (C : Cx K cc nL own ret rm) {x y : Int} (hd : decode cc pc = .ok (.irem, 1)) (h0 : 0 ≤ x) (h1 : x < 2147483648) (h2 : 0 < y) (h3 : y < 2147483648) (k : J K ce sl ws lv (pc + 1) (.int (iI (x % y)) :: sk)) : J K ce sl ws lv pc (.int (iI y) :: .int (iI x) :: sk) := fun H locs ls hP hD hS hl => lv_irem C.1 C.2.1 hd (by rw [iI_zero, iI_eq (by omega) h3 (by omega) (by omega)]; omega) (by rw [iI_div h0 h1 h2 h3, iI_mul, iI_sub, show x - x / y * y = x % y by rw [Int.emod_def, Int.mul_comm]]; exact k H locs ls hP hD hS hl)
theorem j_ishl (C : Cx K cc nL own ret rm) {x y : Int32} {z : Int} (hd : decode cc pc = .ok (.ishl, 1)) (hz : x <<< (y &&& 31) = iI z) (k : J K ce sl ws lv (pc + 1) (.int (iI z) :: sk)) : J K ce sl ws lv pc (.int y :: .int x :: sk) := fun H locs ls hP hD hS hl => lv_ishl C.1 C.2.1 hd (by rw [hz]; exact k H locs ls hP hD hS hl)
theorem j_ishr (C : Cx K cc nL own ret rm) {x y : Int32} {z : Int} (hd : decode cc pc = .ok (.ishr, 1)) (hz : x >>> (y &&& 31) = iI z) (k : J K ce sl ws lv (pc + 1) (.int (iI z) :: sk)) : J K ce sl ws lv pc (.int y :: .int x :: sk) := fun H locs ls hP hD hS hl => lv_ishr C.1 C.2.1 hd (by rw [hz]; exact k H locs ls hP hD hS hl)
theorem j_iand (C : Cx K cc nL own ret rm) {x y : Int32} {z : Int} (hd : decode cc pc = .ok (.iand, 1)) (hz : x &&& y = iI z) (k : J K ce sl ws lv (pc + 1) (.int (iI z) :: sk)) : J K ce sl ws lv pc (.int y :: .int x :: sk) := fun H locs ls hP hD hS hl => lv_iand C.1 C.2.1 hd (by rw [hz]; exact k H locs ls hP hD hS hl)
theorem j_ior (C : Cx K cc nL own ret rm) {x y : Int32} {z : Int} (hd : decode cc pc = .ok (.ior, 1)) (hz : x ||| y = iI z) (k : J K ce sl ws lv (pc + 1) (.int (iI z) :: sk)) : J K ce sl ws lv pc (.int y :: .int x :: sk) := fun H locs ls hP hD hS hl => lv_ior C.1 C.2.1 hd (by rw [hz]; exact k H locs ls hP hD hS hl)
theorem j_ixor (C : Cx K cc nL own ret rm) {x y : Int32} {z : Int} (hd : decode cc pc = .ok (.ixor, 1)) (hz : x ^^^ y = iI z) (k : J K ce sl ws lv (pc + 1) (.int (iI z) :: sk)) : J K ce sl ws lv pc (.int y :: .int x :: sk) := fun H locs ls hP hD hS hl => lv_ixor C.1 C.2.1 hd (by rw [hz]; exact k H locs ls hP hD hS hl)
theorem j_i2l (C : Cx K cc nL own ret rm) {x : Int} (hd : decode cc pc = .ok (.i2l, 1)) (h1 : -2147483648 ≤ x) (h2 : x < 2147483648) (k : J K ce sl ws lv (pc + 1) (.long (lI x) :: sk)) : J K ce sl ws lv pc (.int (iI x) :: sk) := fun H locs ls hP hD hS hl => lv_i2l C.1 C.2.1 hd (lI_i2l h1 h2) (k H locs ls hP hD hS hl)
theorem j_ladd (C : Cx K cc nL own ret rm) {x y : Int} (hd : decode cc pc = .ok (.ladd, 1)) (k : J K ce sl ws lv (pc + 1) (.long (lI (x + y)) :: sk)) : J K ce sl ws lv pc (.long (lI y) :: .long (lI x) :: sk) := fun H locs ls hP hD hS hl => lv_ladd C.1 C.2.1 hd (by rw [lI_add]; exact k H locs ls hP hD hS hl)
theorem j_lmul (C : Cx K cc nL own ret rm) {x y : Int} (hd : decode cc pc = .ok (.lmul, 1)) (k : J K ce sl ws lv (pc + 1) (.long (lI (x * y)) :: sk)) : J K ce sl ws lv pc (.long (lI y) :: .long (lI x) :: sk) := fun H locs ls hP hD hS hl => lv_lmul C.1 C.2.1 hd (by rw [lI_mul]; exact k H locs ls hP hD hS hl)
theorem j_dup (C : Cx K cc nL own ret rm) {v : Value} (hd : decode cc pc = .ok (.dup, 1)) (hv : v.category = 1) (k : J K ce sl ws lv (pc + 1) (v :: v :: sk)) : J K ce sl ws lv pc (v :: sk) := fun H locs ls hP hD hS hl => lv_dup C.1 C.2.1 hd hv (k H locs ls hP hD hS hl)
theorem j_dup2 (C : Cx K cc nL own ret rm) {v w : Value} (hd : decode cc pc = .ok (.dup2, 1)) (hv : v.category = 1) (hw : w.category = 1) (k : J K ce sl ws lv (pc + 1) (v :: w :: v :: w :: sk)) : J K ce sl ws lv pc (v :: w :: sk) := fun H locs ls hP hD hS hl => lv_dup2_11 C.1 C.2.1 hd hv hw (k H locs ls hP hD hS hl)
theorem j_dup_x1 (C : Cx K cc nL own ret rm) {v w : Value} (hd : decode cc pc = .ok (.dup_x1, 1)) (hv : v.category = 1) (hw : w.category = 1) (k : J K ce sl ws lv (pc + 1) (v :: w :: v :: sk)) : J K ce sl ws lv pc (v :: w :: sk) := fun H locs ls hP hD hS hl => lv_dup_x1 C.1 C.2.1 hd hv hw (k H locs ls hP hD hS hl)
theorem j_pop (C : Cx K cc nL own ret rm) {v : Value} (hd : decode cc pc = .ok (.pop, 1)) (hv : v.category = 1) (k : J K ce sl ws lv (pc + 1) sk) : J K ce sl ws lv pc (v :: sk) := fun H locs ls hP hD hS hl => lv_pop C.1 C.2.1 hd hv (k H locs ls hP hD hS hl)
theorem j_goto (C : Cx K cc nL own ret rm) {off : Int} {tgt : Nat} (hd : decode cc pc = .ok (.goto off, 3)) (ht : (pc : Int) + off = (tgt : Int)) (k : J K ce sl ws lv tgt sk) : J K ce sl ws lv pc sk := fun H locs ls hP hD hS hl => lv_goto C.1 C.2.1 hd ht (k H locs ls hP hD hS hl)
theorem j_if_eq (C : Cx K cc nL own ret rm) {x : Int} {off : Int} {tgt : Nat} (hd : decode cc pc = .ok (.ifCond .eq off, 3)) (ht : (pc : Int) + off = (tgt : Int)) (h1 : -2147483648 ≤ x) (h2 : x < 2147483648) (kt : x = 0 → J K ce sl ws lv tgt sk) (kf : x ≠ 0 → J K ce sl ws lv (pc + 3) sk) : J K ce sl ws lv pc (.int (iI x) :: sk) := fun H locs ls hP hD hS hl => lv_if_eq C.1 C.2.1 hd ht (fun q => kt (by rw [iI_zero] at q; simp only [iI_eq h1 h2 (Int.neg_le_of_neg_le (by decide : -(0:Int) ≤ 2147483648)) (by decide : (0:Int) < 2147483648), iI_eq (Int.neg_le_of_neg_le (by decide : -(0:Int) ≤ 2147483648)) (by decide : (0:Int) < 2147483648) h1 h2] at q; omega) H locs ls hP hD hS hl) (fun q => kf (by rw [iI_zero] at q; simp only [iI_eq h1 h2 (Int.neg_le_of_neg_le (by decide : -(0:Int) ≤ 2147483648)) (by decide : (0:Int) < 2147483648), iI_eq (Int.neg_le_of_neg_le (by decide : -(0:Int) ≤ 2147483648)) (by decide : (0:Int) < 2147483648) h1 h2] at q; omega) H locs ls hP hD hS hl)
theorem j_icmp_eq (C : Cx K cc nL own ret rm) {x y : Int} {off : Int} {tgt : Nat} (hd : decode cc pc = .ok (.if_icmp .eq off, 3)) (ht : (pc : Int) + off = (tgt : Int)) (h1 : -2147483648 ≤ x) (h2 : x < 2147483648) (h3 : -2147483648 ≤ y) (h4 : y < 2147483648) (kt : x = y → J K ce sl ws lv tgt sk) (kf : x ≠ y → J K ce sl ws lv (pc + 3) sk) : J K ce sl ws lv pc (.int (iI y) :: .int (iI x) :: sk) := fun H locs ls hP hD hS hl => lv_icmp_eq C.1 C.2.1 hd ht (fun q => kt (by simp only [iI_eq h1 h2 h3 h4, iI_eq h3 h4 h1 h2] at q; omega) H locs ls hP hD hS hl) (fun q => kf (by simp only [iI_eq h1 h2 h3 h4, iI_eq h3 h4 h1 h2] at q; omega) H locs ls hP hD hS hl)
theorem j_if_ne (C : Cx K cc nL own ret rm) {x : Int} {off : Int} {tgt : Nat} (hd : decode cc pc = .ok (.ifCond .ne off, 3)) (ht : (pc : Int) + off = (tgt : Int)) (h1 : -2147483648 ≤ x) (h2 : x < 2147483648) (kt : x ≠ 0 → J K ce sl ws lv tgt sk) (kf : x = 0 → J K ce sl ws lv (pc + 3) sk) : J K ce sl ws lv pc (.int (iI x) :: sk) := fun H locs ls hP hD hS hl => lv_if_ne C.1 C.2.1 hd ht (fun q => kt (by rw [iI_zero] at q; simp only [iI_eq h1 h2 (Int.neg_le_of_neg_le (by decide : -(0:Int) ≤ 2147483648)) (by decide : (0:Int) < 2147483648), iI_eq (Int.neg_le_of_neg_le (by decide : -(0:Int) ≤ 2147483648)) (by decide : (0:Int) < 2147483648) h1 h2] at q; omega) H locs ls hP hD hS hl) (fun q => kf (by rw [iI_zero] at q; simp only [iI_eq h1 h2 (Int.neg_le_of_neg_le (by decide : -(0:Int) ≤ 2147483648)) (by decide : (0:Int) < 2147483648), iI_eq (Int.neg_le_of_neg_le (by decide : -(0:Int) ≤ 2147483648)) (by decide : (0:Int) < 2147483648) h1 h2] at q; omega) H locs ls hP hD hS hl)
theorem j_icmp_ne (C : Cx K cc nL own ret rm) {x y : Int} {off : Int} {tgt : Nat} (hd : decode cc pc = .ok (.if_icmp .ne off, 3)) (ht : (pc : Int) + off = (tgt : Int)) (h1 : -2147483648 ≤ x) (h2 : x < 2147483648) (h3 : -2147483648 ≤ y) (h4 : y < 2147483648) (kt : x ≠ y → J K ce sl ws lv tgt sk) (kf : x = y → J K ce sl ws lv (pc + 3) sk) : J K ce sl ws lv pc (.int (iI y) :: .int (iI x) :: sk) := fun H locs ls hP hD hS hl => lv_icmp_ne C.1 C.2.1 hd ht (fun q => kt (by simp only [iI_eq h1 h2 h3 h4, iI_eq h3 h4 h1 h2] at q; omega) H locs ls hP hD hS hl) (fun q => kf (by simp only [iI_eq h1 h2 h3 h4, iI_eq h3 h4 h1 h2] at q; omega) H locs ls hP hD hS hl)
theorem j_if_lt (C : Cx K cc nL own ret rm) {x : Int} {off : Int} {tgt : Nat} (hd : decode cc pc = .ok (.ifCond .lt off, 3)) (ht : (pc : Int) + off = (tgt : Int)) (h1 : -2147483648 ≤ x) (h2 : x < 2147483648) (kt : x < 0 → J K ce sl ws lv tgt sk) (kf : 0 ≤ x → J K ce sl ws lv (pc + 3) sk) : J K ce sl ws lv pc (.int (iI x) :: sk) := fun H locs ls hP hD hS hl => lv_if_lt C.1 C.2.1 hd ht (fun q => kt (by rw [iI_zero] at q; simp only [iI_lt h1 h2 (Int.neg_le_of_neg_le (by decide : -(0:Int) ≤ 2147483648)) (by decide : (0:Int) < 2147483648), iI_lt (Int.neg_le_of_neg_le (by decide : -(0:Int) ≤ 2147483648)) (by decide : (0:Int) < 2147483648) h1 h2] at q; omega) H locs ls hP hD hS hl) (fun q => kf (by rw [iI_zero] at q; simp only [iI_lt h1 h2 (Int.neg_le_of_neg_le (by decide : -(0:Int) ≤ 2147483648)) (by decide : (0:Int) < 2147483648), iI_lt (Int.neg_le_of_neg_le (by decide : -(0:Int) ≤ 2147483648)) (by decide : (0:Int) < 2147483648) h1 h2] at q; omega) H locs ls hP hD hS hl)
theorem j_icmp_lt (C : Cx K cc nL own ret rm) {x y : Int} {off : Int} {tgt : Nat} (hd : decode cc pc = .ok (.if_icmp .lt off, 3)) (ht : (pc : Int) + off = (tgt : Int)) (h1 : -2147483648 ≤ x) (h2 : x < 2147483648) (h3 : -2147483648 ≤ y) (h4 : y < 2147483648) (kt : x < y → J K ce sl ws lv tgt sk) (kf : y ≤ x → J K ce sl ws lv (pc + 3) sk) : J K ce sl ws lv pc (.int (iI y) :: .int (iI x) :: sk) := fun H locs ls hP hD hS hl => lv_icmp_lt C.1 C.2.1 hd ht (fun q => kt (by simp only [iI_lt h1 h2 h3 h4, iI_lt h3 h4 h1 h2] at q; omega) H locs ls hP hD hS hl) (fun q => kf (by simp only [iI_lt h1 h2 h3 h4, iI_lt h3 h4 h1 h2] at q; omega) H locs ls hP hD hS hl)
theorem j_if_ge (C : Cx K cc nL own ret rm) {x : Int} {off : Int} {tgt : Nat} (hd : decode cc pc = .ok (.ifCond .ge off, 3)) (ht : (pc : Int) + off = (tgt : Int)) (h1 : -2147483648 ≤ x) (h2 : x < 2147483648) (kt : 0 ≤ x → J K ce sl ws lv tgt sk) (kf : x < 0 → J K ce sl ws lv (pc + 3) sk) : J K ce sl ws lv pc (.int (iI x) :: sk) := fun H locs ls hP hD hS hl => lv_if_ge C.1 C.2.1 hd ht (fun q => kt (by rw [iI_zero] at q; simp only [iI_le h1 h2 (Int.neg_le_of_neg_le (by decide : -(0:Int) ≤ 2147483648)) (by decide : (0:Int) < 2147483648), iI_le (Int.neg_le_of_neg_le (by decide : -(0:Int) ≤ 2147483648)) (by decide : (0:Int) < 2147483648) h1 h2] at q; omega) H locs ls hP hD hS hl) (fun q => kf (by rw [iI_zero] at q; simp only [iI_le h1 h2 (Int.neg_le_of_neg_le (by decide : -(0:Int) ≤ 2147483648)) (by decide : (0:Int) < 2147483648), iI_le (Int.neg_le_of_neg_le (by decide : -(0:Int) ≤ 2147483648)) (by decide : (0:Int) < 2147483648) h1 h2] at q; omega) H locs ls hP hD hS hl)
theorem j_icmp_ge (C : Cx K cc nL own ret rm) {x y : Int} {off : Int} {tgt : Nat} (hd : decode cc pc = .ok (.if_icmp .ge off, 3)) (ht : (pc : Int) + off = (tgt : Int)) (h1 : -2147483648 ≤ x) (h2 : x < 2147483648) (h3 : -2147483648 ≤ y) (h4 : y < 2147483648) (kt : y ≤ x → J K ce sl ws lv tgt sk) (kf : x < y → J K ce sl ws lv (pc + 3) sk) : J K ce sl ws lv pc (.int (iI y) :: .int (iI x) :: sk) := fun H locs ls hP hD hS hl => lv_icmp_ge C.1 C.2.1 hd ht (fun q => kt (by simp only [iI_le h1 h2 h3 h4, iI_le h3 h4 h1 h2] at q; omega) H locs ls hP hD hS hl) (fun q => kf (by simp only [iI_le h1 h2 h3 h4, iI_le h3 h4 h1 h2] at q; omega) H locs ls hP hD hS hl)
theorem j_if_gt (C : Cx K cc nL own ret rm) {x : Int} {off : Int} {tgt : Nat} (hd : decode cc pc = .ok (.ifCond .gt off, 3)) (ht : (pc : Int) + off = (tgt : Int)) (h1 : -2147483648 ≤ x) (h2 : x < 2147483648) (kt : 0 < x → J K ce sl ws lv tgt sk) (kf : x ≤ 0 → J K ce sl ws lv (pc + 3) sk) : J K ce sl ws lv pc (.int (iI x) :: sk) := fun H locs ls hP hD hS hl => lv_if_gt C.1 C.2.1 hd ht (fun q => kt (by rw [iI_zero] at q; simp only [iI_lt h1 h2 (Int.neg_le_of_neg_le (by decide : -(0:Int) ≤ 2147483648)) (by decide : (0:Int) < 2147483648), iI_lt (Int.neg_le_of_neg_le (by decide : -(0:Int) ≤ 2147483648)) (by decide : (0:Int) < 2147483648) h1 h2] at q; omega) H locs ls hP hD hS hl) (fun q => kf (by rw [iI_zero] at q; simp only [iI_lt h1 h2 (Int.neg_le_of_neg_le (by decide : -(0:Int) ≤ 2147483648)) (by decide : (0:Int) < 2147483648), iI_lt (Int.neg_le_of_neg_le (by decide : -(0:Int) ≤ 2147483648)) (by decide : (0:Int) < 2147483648) h1 h2] at q; omega) H locs ls hP hD hS hl)
theorem j_icmp_gt (C : Cx K cc nL own ret rm) {x y : Int} {off : Int} {tgt : Nat} (hd : decode cc pc = .ok (.if_icmp .gt off, 3)) (ht : (pc : Int) + off = (tgt : Int)) (h1 : -2147483648 ≤ x) (h2 : x < 2147483648) (h3 : -2147483648 ≤ y) (h4 : y < 2147483648) (kt : y < x → J K ce sl ws lv tgt sk) (kf : x ≤ y → J K ce sl ws lv (pc + 3) sk) : J K ce sl ws lv pc (.int (iI y) :: .int (iI x) :: sk) := fun H locs ls hP hD hS hl => lv_icmp_gt C.1 C.2.1 hd ht (fun q => kt (by simp only [iI_lt h1 h2 h3 h4, iI_lt h3 h4 h1 h2] at q; omega) H locs ls hP hD hS hl) (fun q => kf (by simp only [iI_lt h1 h2 h3 h4, iI_lt h3 h4 h1 h2] at q; omega) H locs ls hP hD hS hl)
theorem j_if_le (C : Cx K cc nL own ret rm) {x : Int} {off : Int} {tgt : Nat} (hd : decode cc pc = .ok (.ifCond .le off, 3)) (ht : (pc : Int) + off = (tgt : Int)) (h1 : -2147483648 ≤ x) (h2 : x < 2147483648) (kt : x ≤ 0 → J K ce sl ws lv tgt sk) (kf : 0 < x → J K ce sl ws lv (pc + 3) sk) : J K ce sl ws lv pc (.int (iI x) :: sk) := fun H locs ls hP hD hS hl => lv_if_le C.1 C.2.1 hd ht (fun q => kt (by rw [iI_zero] at q; simp only [iI_le h1 h2 (Int.neg_le_of_neg_le (by decide : -(0:Int) ≤ 2147483648)) (by decide : (0:Int) < 2147483648), iI_le (Int.neg_le_of_neg_le (by decide : -(0:Int) ≤ 2147483648)) (by decide : (0:Int) < 2147483648) h1 h2] at q; omega) H locs ls hP hD hS hl) (fun q => kf (by rw [iI_zero] at q; simp only [iI_le h1 h2 (Int.neg_le_of_neg_le (by decide : -(0:Int) ≤ 2147483648)) (by decide : (0:Int) < 2147483648), iI_le (Int.neg_le_of_neg_le (by decide : -(0:Int) ≤ 2147483648)) (by decide : (0:Int) < 2147483648) h1 h2] at q; omega) H locs ls hP hD hS hl)
theorem j_icmp_le (C : Cx K cc nL own ret rm) {x y : Int} {off : Int} {tgt : Nat} (hd : decode cc pc = .ok (.if_icmp .le off, 3)) (ht : (pc : Int) + off = (tgt : Int)) (h1 : -2147483648 ≤ x) (h2 : x < 2147483648) (h3 : -2147483648 ≤ y) (h4 : y < 2147483648) (kt : x ≤ y → J K ce sl ws lv tgt sk) (kf : y < x → J K ce sl ws lv (pc + 3) sk) : J K ce sl ws lv pc (.int (iI y) :: .int (iI x) :: sk) := fun H locs ls hP hD hS hl => lv_icmp_le C.1 C.2.1 hd ht (fun q => kt (by simp only [iI_le h1 h2 h3 h4, iI_le h3 h4 h1 h2] at q; omega) H locs ls hP hD hS hl) (fun q => kf (by simp only [iI_le h1 h2 h3 h4, iI_le h3 h4 h1 h2] at q; omega) H locs ls hP hD hS hl)
/-! fields and arrays: the cell j of the block i -/
theorem j_get (C : Cx K cc nL own ret rm) (i j k : Nat) {B : va_W} {a ci index N : Nat} {fs : List Value} {Cn : String} {T : u_T} {v : Value} (hB : ws[i]? = some B) (hj : B[j]? = some (a, .inr (ci, fs))) (hc : vwCl[ci]? = some (Cn, T, N)) (hU : ∀ w ∈ u_ws Cn T N, w ∈ GW) (hk : k < N) (hw : Cond.fieldLink own index (T k).1 (T k).2.1 (T k).2.2.1 ∈ GW) (hv : fs[k]? = some v) (hd : decode cc pc = .ok (.getfield index, 3))
    (kk : J K ce sl ws lv (pc + 3) (v :: sk)) : J K ce sl ws lv pc (.ref a :: sk) := fun H locs ls hP hD hS hl => by
  obtain ⟨q0, hq⟩ := fl_at hB hj
  exact va_get C.1 C.2.1 C.2.2.2.2.1 hU C.2.2.2.1 C.2.2.2.2.2.2.2.1 hP q0 hq hc k hk (C.2.2.2.2.1 _ hw) (fun _ h => h) hv hd (kk H locs ls hP hD hS hl)
theorem j_getN (C : Cx K cc nL own ret rm) (i j k : Nat) {B : va_W} {a ci index N : Nat} {fs : List Value} {Cn host : String} {T : u_T} {v : Value} (hB : ws[i]? = some B) (hj : B[j]? = some (a, .inr (ci, fs))) (hc : vwCl[ci]? = some (Cn, T, N)) (hU : ∀ w ∈ u_ws Cn T N, w ∈ GW) (hk : k < N) (hw : Cond.fieldLinkNest own index (T k).1 (T k).2.1 (T k).2.2.1 host ∈ lw_tbl) (hv : fs[k]? = some v) (hd : decode cc pc = .ok (.getfield index, 3))
    (kk : J K ce sl ws lv (pc + 3) (v :: sk)) : J K ce sl ws lv pc (.ref a :: sk) := fun H locs ls hP hD hS hl => by
  obtain ⟨q0, hq⟩ := fl_at hB hj
  exact va_getN C.1 C.2.1 C.2.2.2.2.1 hU C.2.2.2.1 C.2.2.2.2.2.2.2.1 hP q0 hq hc k hk (va_Nw.use rfl (C.2.2.2.2.2.2.2.2.2.2 _ (List.mem_filter.mpr ⟨hw, rfl⟩))) (fun _ h => h) hv hd (kk H locs ls hP hD hS hl)
theorem j_putG (C : Cx K cc nL own ret rm) (pre : List va_W) (j k : Nat) {post : List va_W} {B B' : va_W} {a ci index N : Nat} {fs : List Value} {Cn : String} {T : u_T} {tt : Nat → FieldType} {v : Value} (hj : B[j]? = some (a, .inr (ci, fs))) (hB' : B.set j (a, .inr (ci, fs.set k v)) = B') (hc : vwCl[ci]? = some (Cn, T, N)) (hU : ∀ w ∈ u_ws Cn T N, w ∈ GW) (hty : ∀ k, k < N → parseFieldDescriptor (T k).2.2.1 = some (tt k)) (hnm : ∀ a, a < N → ∀ b, b < N → a ≠ b → (T a).2.1 ≠ (T b).2.1) (hk : k < N) (hw : Cond.fieldLink own index (T k).1 (T k).2.1 (T k).2.2.1 ∈ GW) (hfin : (T k).2.2.2 = false) (hn : narrow (tt k) v = v) (hfit : fits (tt k) v = true) (hl : k < fs.length) (hd : decode cc pc = .ok (.putfield index, 3))
    (kk : J K ce sl (pre ++ B' :: post) lv (pc + 3) sk) : J K ce sl (pre ++ B :: post) lv pc (v :: .ref a :: sk) := fun H locs ls hP hD hS hl' =>
  va_put C.1 C.2.1 C.2.2.2.2.1 hU tt hty hnm C.2.2.2.1 C.2.2.2.2.2.2.2.1 hP hD hS (pre.flatten.length + j) (fl_pre hj) hc k hk (C.2.2.2.2.1 _ hw) (fun _ h => h) hfin (hty k hk) hn hfit hl hd (fun H1 locs1 hP1 hD1 hS1 => by
    rw [fl_set hj, hB'] at hP1 hD1
    exact kk H1 locs1 ls hP1 hD1 hS1 hl')
theorem j_putNG (C : Cx K cc nL own ret rm) (pre : List va_W) (j k : Nat) {post : List va_W} {B B' : va_W} {a ci index N : Nat} {fs : List Value} {Cn host : String} {T : u_T} {tt : Nat → FieldType} {v : Value} (hj : B[j]? = some (a, .inr (ci, fs))) (hB' : B.set j (a, .inr (ci, fs.set k v)) = B') (hc : vwCl[ci]? = some (Cn, T, N)) (hU : ∀ w ∈ u_ws Cn T N, w ∈ GW) (hty : ∀ k, k < N → parseFieldDescriptor (T k).2.2.1 = some (tt k)) (hnm : ∀ a, a < N → ∀ b, b < N → a ≠ b → (T a).2.1 ≠ (T b).2.1) (hk : k < N) (hw : Cond.fieldLinkNest own index (T k).1 (T k).2.1 (T k).2.2.1 host ∈ lw_tbl) (hfin : (T k).2.2.2 = false) (hn : narrow (tt k) v = v) (hfit : fits (tt k) v = true) (hl : k < fs.length) (hd : decode cc pc = .ok (.putfield index, 3))
    (kk : J K ce sl (pre ++ B' :: post) lv (pc + 3) sk) : J K ce sl (pre ++ B :: post) lv pc (v :: .ref a :: sk) := fun H locs ls hP hD hS hl' =>
  va_putN C.1 C.2.1 C.2.2.2.2.1 hU tt hty hnm C.2.2.2.1 C.2.2.2.2.2.2.2.1 hP hD hS (pre.flatten.length + j) (fl_pre hj) hc k hk (va_Nw.use rfl (C.2.2.2.2.2.2.2.2.2.2 _ (List.mem_filter.mpr ⟨hw, rfl⟩))) (fun _ h => h) hfin (hty k hk) hn hfit hl hd (fun H1 locs1 hP1 hD1 hS1 => by
    rw [fl_set hj, hB'] at hP1 hD1
    exact kk H1 locs1 ls hP1 hD1 hS1 hl')
theorem j_putFG (C : Cx K cc nL own ret rm) (hin : (kM K).name = "<init>") (pre : List va_W) (j k : Nat) {post : List va_W} {B B' : va_W} {a ci index N : Nat} {fs : List Value} {Cn : String} {T : u_T} {tt : Nat → FieldType} {v : Value} (hj : B[j]? = some (a, .inr (ci, fs))) (hB' : B.set j (a, .inr (ci, fs.set k v)) = B') (hc : vwCl[ci]? = some (Cn, T, N)) (hU : ∀ w ∈ u_ws Cn T N, w ∈ GW) (hty : ∀ k, k < N → parseFieldDescriptor (T k).2.2.1 = some (tt k)) (hnm : ∀ a, a < N → ∀ b, b < N → a ≠ b → (T a).2.1 ≠ (T b).2.1) (hk : k < N) (hw : Cond.fieldLink own index (T k).1 (T k).2.1 (T k).2.2.1 ∈ GW) (hfin : (T k).2.2.2 = true) (hdecl : (T k).1 = own) (hn : narrow (tt k) v = v) (hfit : fits (tt k) v = true) (hl : k < fs.length) (hd : decode cc pc = .ok (.putfield index, 3))
    (kk : J K ce sl (pre ++ B' :: post) lv (pc + 3) sk) : J K ce sl (pre ++ B :: post) lv pc (v :: .ref a :: sk) := fun H locs ls hP hD hS hl' =>
  va_putF C.1 C.2.1 C.2.2.2.2.1 hU tt hty hnm C.2.2.2.1 C.2.2.2.2.2.2.2.1 hP hD hS (pre.flatten.length + j) (fl_pre hj) hc k hk (C.2.2.2.2.1 _ hw) (fun _ h => h) hfin hin hdecl (hty k hk) hn hfit hl hd (fun H1 locs1 hP1 hD1 hS1 => by
    rw [fl_set hj, hB'] at hP1 hD1
    exact kk H1 locs1 ls hP1 hD1 hS1 hl')
theorem j_iald (C : Cx K cc nL own ret rm) (i j : Nat) {B : va_W} {a n : Nat} {f : Int → Int} {x : Int} (hB : ws[i]? = some B) (hj : B[j]? = some (a, aJ (kC K 0) n f)) (hd : decode cc pc = .ok (.iaload, 1)) (hn : n < 2147483648) (h0 : 0 ≤ x) (h1 : x < (n : Int))
    (kk : J K ce sl ws lv (pc + 1) (.int (iI (f x)) :: sk)) : J K ce sl ws lv pc (.int (iI x) :: .ref a :: sk) := fun H locs ls hP hD hS hl => by
  obtain ⟨q0, hq⟩ := fl_at hB hj
  refine va_iald C.1 C.2.1 C.2.2.2.2.2.2.2.1 hP q0 0 hq rfl (vp_in_iI h0 h1 hn) hd ?_
  rw [iI_clamp h0 (by omega)]
  exact kk H locs ls hP hD hS hl
theorem j_zald (C : Cx K cc nL own ret rm) (i j : Nat) {B : va_W} {a n : Nat} {f : Int → Int} {x : Int} (hB : ws[i]? = some B) (hj : B[j]? = some (a, aJ (kC K 1) n f)) (hd : decode cc pc = .ok (.baload, 1)) (hn : n < 2147483648) (h0 : 0 ≤ x) (h1 : x < (n : Int))
    (kk : J K ce sl ws lv (pc + 1) (.int (iI (f x)) :: sk)) : J K ce sl ws lv pc (.int (iI x) :: .ref a :: sk) := fun H locs ls hP hD hS hl => by
  obtain ⟨q0, hq⟩ := fl_at hB hj
  refine va_zald C.1 C.2.1 C.2.2.2.2.2.2.2.1 hP q0 1 hq rfl (vp_in_iI h0 h1 hn) hd ?_
  rw [iI_clamp h0 (by omega)]
  exact kk H locs ls hP hD hS hl
theorem j_iastG (C : Cx K cc nL own ret rm) (pre : List va_W) (j : Nat) {post : List va_W} {B B' : va_W} {a n : Nat} {f : Int → Int} {x y : Int} (hj : B[j]? = some (a, aJ (kC K 0) n f)) (hB' : B.set j (a, aJ (kC K 0) n (st f x y)) = B') (hd : decode cc pc = .ok (.iastore, 1)) (hn : n < 2147483648) (h0 : 0 ≤ x) (h1 : x < (n : Int))
    (kk : J K ce sl (pre ++ B' :: post) lv (pc + 1) sk) : J K ce sl (pre ++ B :: post) lv pc (.int (iI y) :: .int (iI x) :: .ref a :: sk) := fun H locs ls hP hD hS hl =>
  va_iast C.1 C.2.1 C.2.2.2.2.2.2.2.1 hP hD hS (pre.flatten.length + j) 0 (fl_pre hj) rfl (vp_in_iI h0 h1 hn) hd (fun H1 locs1 hP1 hD1 hS1 => by
    rw [upd_iI h0 (by omega)] at hP1 hD1
    rw [fl_set hj] at hP1 hD1
    have e := hB'
    unfold aJ at e
    rw [e] at hP1 hD1
    exact kk H1 locs1 ls hP1 hD1 hS1 hl)
theorem nar_z {y : Int} (h : y = 0 ∨ y = 1) : vp_nar .boolean (iI y) = iI y := by
  rcases h with rfl | rfl <;> decide
theorem j_zastG (C : Cx K cc nL own ret rm) (pre : List va_W) (j : Nat) {post : List va_W} {B B' : va_W} {a n : Nat} {f : Int → Int} {x y : Int} (hj : B[j]? = some (a, aJ (kC K 1) n f)) (hB' : B.set j (a, aJ (kC K 1) n (st f x y)) = B') (hd : decode cc pc = .ok (.bastore, 1)) (hn : n < 2147483648) (h0 : 0 ≤ x) (h1 : x < (n : Int)) (hy : y = 0 ∨ y = 1)
    (kk : J K ce sl (pre ++ B' :: post) lv (pc + 1) sk) : J K ce sl (pre ++ B :: post) lv pc (.int (iI y) :: .int (iI x) :: .ref a :: sk) := fun H locs ls hP hD hS hl =>
  va_zast C.1 C.2.1 C.2.2.2.2.2.2.2.1 hP hD hS (pre.flatten.length + j) 1 (fl_pre hj) rfl (vp_in_iI h0 h1 hn) hd (fun H1 locs1 hP1 hD1 hS1 => by
    rw [nar_z hy, upd_iI h0 (by omega)] at hP1 hD1
    rw [fl_set hj] at hP1 hD1
    have e := hB'
    unfold aJ at e
    rw [e] at hP1 hD1
    exact kk H1 locs1 ls hP1 hD1 hS1 hl)
/-! contracts, calls, start and end of a method -/
def pcJ (D : va_G) (cA : Nat → ClassId) (av : List Value) (ws : List va_W) (sz : Nat) : Array Value → State → Prop := va_Pc av (fun U => U.heap.size = sz ∧ va_P D vwCl ws.flatten U.heap ∧ va_K D vwCl (tyA cA) U ∧ NW U ∧ va_D (fun _ => True) ws.flatten)
def wJ (D : va_G) (A : Nat → Prop) (ws : List va_W) (t : State) : Prop := va_P D vwCl ws.flatten t.heap ∧ va_D A ws.flatten
theorem pcJ_blind {D : va_G} {cA : Nat → ClassId} {av : List Value} {ws : List va_W} {sz : Nat} : FrameBlind (pcJ D cA av ws sz) := fun a U g mk q => by
  obtain ⟨q0, q1, qP, qK, qN, qD⟩ := q
  exact ⟨q0, q1, qP, va_K.moved (u := U) (U := U.calling g mk a) (Vm.Alike.refl U.vm) qK, NW.same (u := U) (U := U.calling g mk a) rfl qN, qD⟩
/-- a method that answers an int (or a boolean, 0 or 1) -/
def MI {U : Type} (l : Launch) (y : MethodName) (c : ByteArray) (mL : Nat) (rt : Option FieldType) (rm : Room) (D : va_G) (cA : Nat → ClassId) (av : List Value) (ws : List va_W) (post : Int → U → Prop) (w1 : U → List va_W) : Prop :=
  ∀ sz : Nat, Met l y (.code y c mL rt :: GW) rm (pcJ D cA av ws sz) (va_Qi (fun (r : Int32) (u : U) => ∃ x : Int, r = iI x ∧ post x u) (fun u t => wJ D (va_A ws.flatten sz) (w1 u) t) (va_A ws.flatten sz)) rm.cells rm.slots (va_A ws.flatten sz)
def ML {U : Type} (l : Launch) (y : MethodName) (c : ByteArray) (mL : Nat) (rt : Option FieldType) (rm : Room) (D : va_G) (cA : Nat → ClassId) (av : List Value) (ws : List va_W) (post : Int → U → Prop) (w1 : U → List va_W) : Prop :=
  ∀ sz : Nat, Met l y (.code y c mL rt :: GW) rm (pcJ D cA av ws sz) (va_Ql (fun (r : Int64) (u : U) => ∃ x : Int, r = lI x ∧ post x u) (fun u t => wJ D (va_A ws.flatten sz) (w1 u) t) (va_A ws.flatten sz)) rm.cells rm.slots (va_A ws.flatten sz)
def MV {U : Type} (l : Launch) (y : MethodName) (c : ByteArray) (mL : Nat) (rt : Option FieldType) (rm : Room) (D : va_G) (cA : Nat → ClassId) (av : List Value) (ws : List va_W) (post : U → Prop) (w1 : U → List va_W) : Prop :=
  ∀ sz : Nat, Met l y (.code y c mL rt :: GW) rm (pcJ D cA av ws sz) (va_Qv post (fun u t => wJ D (va_A ws.flatten sz) (w1 u) t) (va_A ws.flatten sz)) rm.cells rm.slots (va_A ws.flatten sz)
/-- the ends -/
def RI {U : Type} (K : KT) (cc : ByteArray) (rm : Room) (post : Int → U → Prop) (w1 : U → List va_W) : Prop :=
  ∀ {ce sl pc : Nat} {lv : List (Option Value)} {ws : List va_W} {x : Int} (u : U), decode cc pc = .ok (.ireturn, 1) → post x u → ws = w1 u → ce ≤ rm.cells → sl ≤ rm.slots → J K ce sl ws lv pc [.int (iI x)]
def RZ {U : Type} (K : KT) (cc : ByteArray) (rm : Room) (post : Int → U → Prop) (w1 : U → List va_W) : Prop :=
  ∀ {ce sl pc : Nat} {lv : List (Option Value)} {ws : List va_W} {x : Int} (u : U), decode cc pc = .ok (.ireturn, 1) → (x = 0 ∨ x = 1) → post x u → ws = w1 u → ce ≤ rm.cells → sl ≤ rm.slots → J K ce sl ws lv pc [.int (iI x)]
def RL' {U : Type} (K : KT) (cc : ByteArray) (rm : Room) (post : Int → U → Prop) (w1 : U → List va_W) : Prop :=
  ∀ {ce sl pc : Nat} {lv : List (Option Value)} {ws : List va_W} {x : Int} (u : U), decode cc pc = .ok (.lreturn, 1) → post x u → ws = w1 u → ce ≤ rm.cells → sl ≤ rm.slots → J K ce sl ws lv pc [.long (lI x)]
def RV {U : Type} (K : KT) (cc : ByteArray) (rm : Room) (post : U → Prop) (w1 : U → List va_W) : Prop :=
  ∀ {ce sl pc : Nat} {lv : List (Option Value)} {ws : List va_W} (u : U), decode cc pc = .ok (.return_, 1) → post u → ws = w1 u → ce ≤ rm.cells → sl ≤ rm.slots → J K ce sl ws lv pc []
theorem lv_args_mem : ∀ (vs : List Value) (k : Nat), (∀ v ∈ vs, v.category = 1) → ∀ (i : Nat) (v : Value), vs[i]? = some v → (k + i, v) ∈ lv_args k vs
  | [], k, _, i, v, h => by simp at h
  | w :: vs, k, hc, i, v, h => by
    have h1 : ¬ w.category = 2 := by
      have := hc w List.mem_cons_self
      omega
    rw [lv_args, if_neg h1]
    match i with
    | 0 =>
      simp at h
      subst h
      exact List.mem_cons_self
    | i + 1 =>
      have := lv_args_mem vs (k + 1) (fun v hv => hc v (List.mem_cons_of_mem _ hv)) i v (by simpa using h)
      rw [show k + (i + 1) = k + 1 + i by omega]
      exact List.mem_cons_of_mem _ this
theorem lg_sl_len : ∀ (vs : List Value), (∀ v ∈ vs, v.category = 1) → (lg_sl vs).length = vs.length
  | [], _ => rfl
  | w :: vs, hc => by
    have h1 : ¬ w.category = 2 := by
      have := hc w List.mem_cons_self
      omega
    have := lg_sl_len vs (fun v hv => hc v (List.mem_cons_of_mem _ hv))
    unfold lg_sl at this ⊢
    rw [List.flatMap_cons, if_neg h1, List.length_append, this]
    simp
    omega
theorem lL_entry {vs : List Value} {n : Nat} (hc : ∀ v ∈ vs, v.category = 1) (hn : vs.length ≤ n) : lL ((lg_sl vs ++ List.replicate (n - (lg_sl vs).length) Slot.unset).toArray) (vs.map some ++ List.replicate (n - vs.length) none) := by
  have hlen := lg_sl_len vs hc
  have h := lv_entry vs (n := n) (by omega)
  refine lL.mk ?_ h.2.1 (fun i v hv => ?_)
  · rw [h.1]
    simp
    omega
  · by_cases hi : i < vs.length
    · rw [List.getElem?_append_left (by simpa using hi), List.getElem?_map] at hv
      rw [List.getElem?_eq_getElem hi] at hv
      simp at hv
      have := lv_args_mem vs 0 hc i v (by rw [List.getElem?_eq_getElem hi, hv])
      simpa using h.2.2 _ this
    · rw [List.getElem?_append_right (by simpa using Nat.le_of_not_lt hi), List.getElem?_replicate] at hv
      split at hv <;> simp at hv
theorem gU_code {y : MethodName} {c : ByteArray} {mL : Nat} {rt : Option FieldType} (h : Cond.code y c mL rt ∈ GW) : GoodIn GW (.code y c mL rt :: GW) := by
  intro w hw
  rcases List.mem_cons.mp hw with rfl | hw
  · exact ⟨h, good_of_word (List.mem_filter.mp h).2⟩
  · exact ⟨hw, good_of_word (List.mem_filter.mp hw).2⟩
theorem gU_list {ws : List Cond} (h : ∀ w ∈ ws, w ∈ GW) : GoodIn GW ws := fun w hw => ⟨h w hw, good_of_word (List.mem_filter.mp (h w hw)).2⟩
theorem gU_app {a b : List Cond} (ha : GoodIn GW a) (hb : GoodIn GW b) : GoodIn GW (a ++ b) := fun w h => (List.mem_append.mp h).elim (ha w) (hb w)
theorem gU_V {own Cn : String} {index mL : Nat} {y : MethodName} {c : ByteArray} {rt : Option FieldType} (hL : Cond.methodLink own index y ∈ GW) (hI : Cond.instanceMethod y ∈ GW) (hSe : Cond.selects Cn y y ∈ GW) (hIn : Cond.initialized Cn ∈ GW) (hC : Cond.code y c mL rt ∈ GW) : GoodIn GW (wsV own index Cn y (.code y c mL rt :: GW)) :=
  gU_app (gU_list (List.forall_mem_cons.mpr ⟨hL, List.forall_mem_cons.mpr ⟨hI, List.forall_mem_cons.mpr ⟨hSe, List.forall_mem_cons.mpr ⟨hIn, fun _ h => absurd h List.not_mem_nil⟩⟩⟩⟩)) (gU_code hC)
theorem gU_S {own : String} {index mL : Nat} {y : MethodName} {c : ByteArray} {rt : Option FieldType} (hL : Cond.methodLink own index y ∈ GW) (hI : Cond.static y ∈ GW) (hIn : Cond.initialized y.cls ∈ GW) (hC : Cond.code y c mL rt ∈ GW) : GoodIn GW (va_wsS own index y (.code y c mL rt :: GW)) :=
  gU_app (gU_list (List.forall_mem_cons.mpr ⟨hL, List.forall_mem_cons.mpr ⟨hI, List.forall_mem_cons.mpr ⟨hIn, fun _ h => absurd h List.not_mem_nil⟩⟩⟩)) (gU_code hC)
theorem kF_of {K : KT} {cc : ByteArray} {nL : Nat} {own : String} {ret : Option FieldType} {rm : Room} (C : Cx K cc nL own ret rm) {H : Heap} {locs : List Loc} {wc : va_W} (hD : va_D (kA K) wc) (hS : va_S (kA K) (ks K).heap H locs) : ∀ q, va_A wc H.size q → kA K q := by
  intro q h
  rcases vaA_mem.mp h with ⟨e, he⟩ | h
  · exact (vaD_nd.mp hD).2 _ he
  · exact C.2.2.2.2.2.2.2.2.1 q (Nat.le_trans hS.1 h)
theorem j_callVi {U : Type} (C : Cx K cc nL own ret rm) {y : MethodName} {c2 : ByteArray} {mL2 index b : Nat} {rt2 : Option FieldType} {rm2 : Room} {As : List Value} {wc wr : List va_W} {post : Int → U → Prop} {w1 : U → List va_W} (hM : MI (kl K) y c2 mL2 rt2 rm2 (kD K) (kC K) (.ref b :: As) wc post w1) {Cn : String} {T : u_T} {N jb ci : Nat} {fs : List Value} (n : Nat) (nf : y.cls = Cn ∧ y.cls ≠ "java/lang/invoke/MethodHandle" ∧ y.cls ≠ "java/lang/invoke/VarHandle" ∧ (parseMethodDescriptor y.desc).map (fun d => d.parameters.length) = some n) (hr : wc.flatten[jb]? = some (b, .inr (ci, fs))) (hc : vwCl[ci]? = some (Cn, T, N)) (hL : Cond.methodLink own index y ∈ GW) (hI : Cond.instanceMethod y ∈ GW) (hSe : Cond.selects Cn y y ∈ GW) (hIn : Cond.initialized Cn ∈ GW) (hCd : Cond.code y c2 mL2 rt2 ∈ GW) (hn : As.length = n) (hlv : lv.length = nL)
    (hR0 : rm2.frames + 1 ≤ rm.frames ∧ 8 + (mL2 + 11) + rm2.locals ≤ rm.locals) (hd : decode cc pc = .ok (.invokevirtual index, 3)) (hsk : (sk.map fun v => v.category).sum ≤ 8) (hs0 : ce + rm2.cells ≤ rm.cells ∧ sl + rm2.slots ≤ rm.slots)
    (kk : ∀ (x : Int) (u : U), post x u → J K (ce + rm2.cells) (sl + rm2.slots) (w1 u ++ wr) lv (pc + 3) (.int (iI x) :: sk)) : J K ce sl (wc ++ wr) lv pc (As.reverse ++ .ref b :: sk) := fun H locs ls hP hD hS hl => by
  have hkR : kR K = rm := C.2.2.2.2.2.2.2.2.2.1
  have hR : rm2.frames + 1 ≤ (kR K).frames ∧ 8 + (mL2 + 11) + rm2.locals ≤ (kR K).locals := by rw [hkR]; exact hR0
  have hs : ce + rm2.cells ≤ (kR K).cells ∧ sl + rm2.slots ≤ (kR K).slots := by rw [hkR]; exact hs0
  rw [List.flatten_append] at hP hD
  have hPc := vaP_l hP
  have hDc := vaD_l hD
  have hF := kF_of C hDc hS
  refine va_calli (va_runV (As := As) (rest := sk) ⟨C.1, C.2.1, C.2.2.1, C.2.2.2.1, C.2.2.2.2.1⟩ (hM H.size) (cwV n C.2.2.2.2.1 (gU_V hL hI hSe hIn hCd) rfl rfl rfl nf hR) ⟨pcJ_blind, va_recv C.2.2.2.2.2.2.2.1 hPc hc hr, fun U hU hW => ⟨rfl, by rw [hU], by rw [hU]; exact hPc, va_K.moved hW.alike C.2.2.2.2.2.2.2.1, NW.warm hW C.2.2.2.2.2.2.2.2.2.2, hDc.weaken (fun _ _ _ _ => trivial)⟩⟩ rfl hn (hl.1.trans hlv) rfl (lv_room hsk) hd hs) hS (fun q _ h => hF q h) hF (fun r u t H1 locs1 ht hvm hw hB hz1 hk1 hS1 => ?_)
  obtain ⟨x, rfl, hx⟩ := hw
  obtain ⟨hP1, hD1⟩ := hB
  rw [ht] at hP1
  obtain ⟨hP2, hD2⟩ := wj_join hP hD hk1 hF hP1 hD1
  rw [← List.flatten_append] at hP2 hD2
  exact kk x u hx H1 locs1 ls hP2 hD2 hS1 hl
theorem j_callVl {U : Type} (C : Cx K cc nL own ret rm) {y : MethodName} {c2 : ByteArray} {mL2 index b : Nat} {rt2 : Option FieldType} {rm2 : Room} {As : List Value} {wc wr : List va_W} {post : Int → U → Prop} {w1 : U → List va_W} (hM : ML (kl K) y c2 mL2 rt2 rm2 (kD K) (kC K) (.ref b :: As) wc post w1) {Cn : String} {T : u_T} {N jb ci : Nat} {fs : List Value} (n : Nat) (nf : y.cls = Cn ∧ y.cls ≠ "java/lang/invoke/MethodHandle" ∧ y.cls ≠ "java/lang/invoke/VarHandle" ∧ (parseMethodDescriptor y.desc).map (fun d => d.parameters.length) = some n) (hr : wc.flatten[jb]? = some (b, .inr (ci, fs))) (hc : vwCl[ci]? = some (Cn, T, N)) (hL : Cond.methodLink own index y ∈ GW) (hI : Cond.instanceMethod y ∈ GW) (hSe : Cond.selects Cn y y ∈ GW) (hIn : Cond.initialized Cn ∈ GW) (hCd : Cond.code y c2 mL2 rt2 ∈ GW) (hn : As.length = n) (hlv : lv.length = nL)
    (hR0 : rm2.frames + 1 ≤ rm.frames ∧ 8 + (mL2 + 11) + rm2.locals ≤ rm.locals) (hd : decode cc pc = .ok (.invokevirtual index, 3)) (hsk : (sk.map fun v => v.category).sum ≤ 8) (hs0 : ce + rm2.cells ≤ rm.cells ∧ sl + rm2.slots ≤ rm.slots)
    (kk : ∀ (x : Int) (u : U), post x u → J K (ce + rm2.cells) (sl + rm2.slots) (w1 u ++ wr) lv (pc + 3) (.long (lI x) :: sk)) : J K ce sl (wc ++ wr) lv pc (As.reverse ++ .ref b :: sk) := fun H locs ls hP hD hS hl => by
  have hkR : kR K = rm := C.2.2.2.2.2.2.2.2.2.1
  have hR : rm2.frames + 1 ≤ (kR K).frames ∧ 8 + (mL2 + 11) + rm2.locals ≤ (kR K).locals := by rw [hkR]; exact hR0
  have hs : ce + rm2.cells ≤ (kR K).cells ∧ sl + rm2.slots ≤ (kR K).slots := by rw [hkR]; exact hs0
  rw [List.flatten_append] at hP hD
  have hPc := vaP_l hP
  have hDc := vaD_l hD
  have hF := kF_of C hDc hS
  refine va_calll (va_runV (As := As) (rest := sk) ⟨C.1, C.2.1, C.2.2.1, C.2.2.2.1, C.2.2.2.2.1⟩ (hM H.size) (cwV n C.2.2.2.2.1 (gU_V hL hI hSe hIn hCd) rfl rfl rfl nf hR) ⟨pcJ_blind, va_recv C.2.2.2.2.2.2.2.1 hPc hc hr, fun U hU hW => ⟨rfl, by rw [hU], by rw [hU]; exact hPc, va_K.moved hW.alike C.2.2.2.2.2.2.2.1, NW.warm hW C.2.2.2.2.2.2.2.2.2.2, hDc.weaken (fun _ _ _ _ => trivial)⟩⟩ rfl hn (hl.1.trans hlv) rfl (lv_room hsk) hd hs) hS (fun q _ h => hF q h) hF (fun r u t H1 locs1 ht hvm hw hB hz1 hk1 hS1 => ?_)
  obtain ⟨x, rfl, hx⟩ := hw
  obtain ⟨hP1, hD1⟩ := hB
  rw [ht] at hP1
  obtain ⟨hP2, hD2⟩ := wj_join hP hD hk1 hF hP1 hD1
  rw [← List.flatten_append] at hP2 hD2
  exact kk x u hx H1 locs1 ls hP2 hD2 hS1 hl
theorem j_callVv {U : Type} (C : Cx K cc nL own ret rm) {y : MethodName} {c2 : ByteArray} {mL2 index b : Nat} {rt2 : Option FieldType} {rm2 : Room} {As : List Value} {wc wr : List va_W} {post : U → Prop} {w1 : U → List va_W} (hM : MV (kl K) y c2 mL2 rt2 rm2 (kD K) (kC K) (.ref b :: As) wc post w1) {Cn : String} {T : u_T} {N jb ci : Nat} {fs : List Value} (n : Nat) (nf : y.cls = Cn ∧ y.cls ≠ "java/lang/invoke/MethodHandle" ∧ y.cls ≠ "java/lang/invoke/VarHandle" ∧ (parseMethodDescriptor y.desc).map (fun d => d.parameters.length) = some n) (hr : wc.flatten[jb]? = some (b, .inr (ci, fs))) (hc : vwCl[ci]? = some (Cn, T, N)) (hL : Cond.methodLink own index y ∈ GW) (hI : Cond.instanceMethod y ∈ GW) (hSe : Cond.selects Cn y y ∈ GW) (hIn : Cond.initialized Cn ∈ GW) (hCd : Cond.code y c2 mL2 rt2 ∈ GW) (hn : As.length = n) (hlv : lv.length = nL)
    (hR0 : rm2.frames + 1 ≤ rm.frames ∧ 8 + (mL2 + 11) + rm2.locals ≤ rm.locals) (hd : decode cc pc = .ok (.invokevirtual index, 3)) (hsk : (sk.map fun v => v.category).sum ≤ 8) (hs0 : ce + rm2.cells ≤ rm.cells ∧ sl + rm2.slots ≤ rm.slots)
    (kk : ∀ (u : U), post u → J K (ce + rm2.cells) (sl + rm2.slots) (w1 u ++ wr) lv (pc + 3) (sk)) : J K ce sl (wc ++ wr) lv pc (As.reverse ++ .ref b :: sk) := fun H locs ls hP hD hS hl => by
  have hkR : kR K = rm := C.2.2.2.2.2.2.2.2.2.1
  have hR : rm2.frames + 1 ≤ (kR K).frames ∧ 8 + (mL2 + 11) + rm2.locals ≤ (kR K).locals := by rw [hkR]; exact hR0
  have hs : ce + rm2.cells ≤ (kR K).cells ∧ sl + rm2.slots ≤ (kR K).slots := by rw [hkR]; exact hs0
  rw [List.flatten_append] at hP hD
  have hPc := vaP_l hP
  have hDc := vaD_l hD
  have hF := kF_of C hDc hS
  refine va_callv (va_runV (As := As) (rest := sk) ⟨C.1, C.2.1, C.2.2.1, C.2.2.2.1, C.2.2.2.2.1⟩ (hM H.size) (cwV n C.2.2.2.2.1 (gU_V hL hI hSe hIn hCd) rfl rfl rfl nf hR) ⟨pcJ_blind, va_recv C.2.2.2.2.2.2.2.1 hPc hc hr, fun U hU hW => ⟨rfl, by rw [hU], by rw [hU]; exact hPc, va_K.moved hW.alike C.2.2.2.2.2.2.2.1, NW.warm hW C.2.2.2.2.2.2.2.2.2.2, hDc.weaken (fun _ _ _ _ => trivial)⟩⟩ rfl hn (hl.1.trans hlv) rfl (lv_room hsk) hd hs) hS (fun q _ h => hF q h) hF (fun u t H1 locs1 ht hvm hw hB hz1 hk1 hS1 => ?_)
  obtain ⟨hP1, hD1⟩ := hB
  rw [ht] at hP1
  obtain ⟨hP2, hD2⟩ := wj_join hP hD hk1 hF hP1 hD1
  rw [← List.flatten_append] at hP2 hD2
  exact kk u hw H1 locs1 ls hP2 hD2 hS1 hl
theorem j_callSi {U : Type} (C : Cx K cc nL own ret rm) {y : MethodName} {c2 : ByteArray} {mL2 index : Nat} {rt2 : Option FieldType} {rm2 : Room} {As : List Value} {wc wr : List va_W} {post : Int → U → Prop} {w1 : U → List va_W} (hM : MI (kl K) y c2 mL2 rt2 rm2 (kD K) (kC K) As wc post w1) (n : Nat) (nf : y.cls ≠ "java/lang/invoke/MethodHandle" ∧ y.cls ≠ "java/lang/invoke/VarHandle" ∧ (parseMethodDescriptor y.desc).map (fun d => d.parameters.length) = some n) (hL : Cond.methodLink own index y ∈ GW) (hI : Cond.static y ∈ GW) (hIn : Cond.initialized y.cls ∈ GW) (hCd : Cond.code y c2 mL2 rt2 ∈ GW) (hn : As.length = n) (hlv : lv.length = nL)
    (hR0 : rm2.frames + 1 ≤ rm.frames ∧ 8 + (mL2 + 11) + rm2.locals ≤ rm.locals) (hd : decode cc pc = .ok (.invokestatic index, 3)) (hsk : (sk.map fun v => v.category).sum ≤ 8) (hs0 : ce + rm2.cells ≤ rm.cells ∧ sl + rm2.slots ≤ rm.slots)
    (kk : ∀ (x : Int) (u : U), post x u → J K (ce + rm2.cells) (sl + rm2.slots) (w1 u ++ wr) lv (pc + 3) (.int (iI x) :: sk)) : J K ce sl (wc ++ wr) lv pc (As.reverse ++ sk) := fun H locs ls hP hD hS hl => by
  have hkR : kR K = rm := C.2.2.2.2.2.2.2.2.2.1
  have hR : rm2.frames + 1 ≤ (kR K).frames ∧ 8 + (mL2 + 11) + rm2.locals ≤ (kR K).locals := by rw [hkR]; exact hR0
  have hs : ce + rm2.cells ≤ (kR K).cells ∧ sl + rm2.slots ≤ (kR K).slots := by rw [hkR]; exact hs0
  rw [List.flatten_append] at hP hD
  have hPc := vaP_l hP
  have hDc := vaD_l hD
  have hF := kF_of C hDc hS
  refine va_calli (va_runS (As := As) (rest := sk) ⟨C.1, C.2.1, C.2.2.1, C.2.2.2.1, C.2.2.2.2.1⟩ (hM H.size) (va_cwS n C.2.2.2.2.1 (gU_S hL hI hIn hCd) rfl rfl rfl nf hR) ⟨pcJ_blind, fun U hU hW => ⟨rfl, by rw [hU], by rw [hU]; exact hPc, va_K.moved hW.alike C.2.2.2.2.2.2.2.1, NW.warm hW C.2.2.2.2.2.2.2.2.2.2, hDc.weaken (fun _ _ _ _ => trivial)⟩⟩ rfl hn (hl.1.trans hlv) rfl (lv_room hsk) hd hs) hS (fun q _ h => hF q h) hF (fun r u t H1 locs1 ht hvm hw hB hz1 hk1 hS1 => ?_)
  obtain ⟨x, rfl, hx⟩ := hw
  obtain ⟨hP1, hD1⟩ := hB
  rw [ht] at hP1
  obtain ⟨hP2, hD2⟩ := wj_join hP hD hk1 hF hP1 hD1
  rw [← List.flatten_append] at hP2 hD2
  exact kk x u hx H1 locs1 ls hP2 hD2 hS1 hl
theorem j_callSl {U : Type} (C : Cx K cc nL own ret rm) {y : MethodName} {c2 : ByteArray} {mL2 index : Nat} {rt2 : Option FieldType} {rm2 : Room} {As : List Value} {wc wr : List va_W} {post : Int → U → Prop} {w1 : U → List va_W} (hM : ML (kl K) y c2 mL2 rt2 rm2 (kD K) (kC K) As wc post w1) (n : Nat) (nf : y.cls ≠ "java/lang/invoke/MethodHandle" ∧ y.cls ≠ "java/lang/invoke/VarHandle" ∧ (parseMethodDescriptor y.desc).map (fun d => d.parameters.length) = some n) (hL : Cond.methodLink own index y ∈ GW) (hI : Cond.static y ∈ GW) (hIn : Cond.initialized y.cls ∈ GW) (hCd : Cond.code y c2 mL2 rt2 ∈ GW) (hn : As.length = n) (hlv : lv.length = nL)
    (hR0 : rm2.frames + 1 ≤ rm.frames ∧ 8 + (mL2 + 11) + rm2.locals ≤ rm.locals) (hd : decode cc pc = .ok (.invokestatic index, 3)) (hsk : (sk.map fun v => v.category).sum ≤ 8) (hs0 : ce + rm2.cells ≤ rm.cells ∧ sl + rm2.slots ≤ rm.slots)
    (kk : ∀ (x : Int) (u : U), post x u → J K (ce + rm2.cells) (sl + rm2.slots) (w1 u ++ wr) lv (pc + 3) (.long (lI x) :: sk)) : J K ce sl (wc ++ wr) lv pc (As.reverse ++ sk) := fun H locs ls hP hD hS hl => by
  have hkR : kR K = rm := C.2.2.2.2.2.2.2.2.2.1
  have hR : rm2.frames + 1 ≤ (kR K).frames ∧ 8 + (mL2 + 11) + rm2.locals ≤ (kR K).locals := by rw [hkR]; exact hR0
  have hs : ce + rm2.cells ≤ (kR K).cells ∧ sl + rm2.slots ≤ (kR K).slots := by rw [hkR]; exact hs0
  rw [List.flatten_append] at hP hD
  have hPc := vaP_l hP
  have hDc := vaD_l hD
  have hF := kF_of C hDc hS
  refine va_calll (va_runS (As := As) (rest := sk) ⟨C.1, C.2.1, C.2.2.1, C.2.2.2.1, C.2.2.2.2.1⟩ (hM H.size) (va_cwS n C.2.2.2.2.1 (gU_S hL hI hIn hCd) rfl rfl rfl nf hR) ⟨pcJ_blind, fun U hU hW => ⟨rfl, by rw [hU], by rw [hU]; exact hPc, va_K.moved hW.alike C.2.2.2.2.2.2.2.1, NW.warm hW C.2.2.2.2.2.2.2.2.2.2, hDc.weaken (fun _ _ _ _ => trivial)⟩⟩ rfl hn (hl.1.trans hlv) rfl (lv_room hsk) hd hs) hS (fun q _ h => hF q h) hF (fun r u t H1 locs1 ht hvm hw hB hz1 hk1 hS1 => ?_)
  obtain ⟨x, rfl, hx⟩ := hw
  obtain ⟨hP1, hD1⟩ := hB
  rw [ht] at hP1
  obtain ⟨hP2, hD2⟩ := wj_join hP hD hk1 hF hP1 hD1
  rw [← List.flatten_append] at hP2 hD2
  exact kk x u hx H1 locs1 ls hP2 hD2 hS1 hl
theorem j_callSv {U : Type} (C : Cx K cc nL own ret rm) {y : MethodName} {c2 : ByteArray} {mL2 index : Nat} {rt2 : Option FieldType} {rm2 : Room} {As : List Value} {wc wr : List va_W} {post : U → Prop} {w1 : U → List va_W} (hM : MV (kl K) y c2 mL2 rt2 rm2 (kD K) (kC K) As wc post w1) (n : Nat) (nf : y.cls ≠ "java/lang/invoke/MethodHandle" ∧ y.cls ≠ "java/lang/invoke/VarHandle" ∧ (parseMethodDescriptor y.desc).map (fun d => d.parameters.length) = some n) (hL : Cond.methodLink own index y ∈ GW) (hI : Cond.static y ∈ GW) (hIn : Cond.initialized y.cls ∈ GW) (hCd : Cond.code y c2 mL2 rt2 ∈ GW) (hn : As.length = n) (hlv : lv.length = nL)
    (hR0 : rm2.frames + 1 ≤ rm.frames ∧ 8 + (mL2 + 11) + rm2.locals ≤ rm.locals) (hd : decode cc pc = .ok (.invokestatic index, 3)) (hsk : (sk.map fun v => v.category).sum ≤ 8) (hs0 : ce + rm2.cells ≤ rm.cells ∧ sl + rm2.slots ≤ rm.slots)
    (kk : ∀ (u : U), post u → J K (ce + rm2.cells) (sl + rm2.slots) (w1 u ++ wr) lv (pc + 3) (sk)) : J K ce sl (wc ++ wr) lv pc (As.reverse ++ sk) := fun H locs ls hP hD hS hl => by
  have hkR : kR K = rm := C.2.2.2.2.2.2.2.2.2.1
  have hR : rm2.frames + 1 ≤ (kR K).frames ∧ 8 + (mL2 + 11) + rm2.locals ≤ (kR K).locals := by rw [hkR]; exact hR0
  have hs : ce + rm2.cells ≤ (kR K).cells ∧ sl + rm2.slots ≤ (kR K).slots := by rw [hkR]; exact hs0
  rw [List.flatten_append] at hP hD
  have hPc := vaP_l hP
  have hDc := vaD_l hD
  have hF := kF_of C hDc hS
  refine va_callv (va_runS (As := As) (rest := sk) ⟨C.1, C.2.1, C.2.2.1, C.2.2.2.1, C.2.2.2.2.1⟩ (hM H.size) (va_cwS n C.2.2.2.2.1 (gU_S hL hI hIn hCd) rfl rfl rfl nf hR) ⟨pcJ_blind, fun U hU hW => ⟨rfl, by rw [hU], by rw [hU]; exact hPc, va_K.moved hW.alike C.2.2.2.2.2.2.2.1, NW.warm hW C.2.2.2.2.2.2.2.2.2.2, hDc.weaken (fun _ _ _ _ => trivial)⟩⟩ rfl hn (hl.1.trans hlv) rfl (lv_room hsk) hd hs) hS (fun q _ h => hF q h) hF (fun u t H1 locs1 ht hvm hw hB hz1 hk1 hS1 => ?_)
  obtain ⟨hP1, hD1⟩ := hB
  rw [ht] at hP1
  obtain ⟨hP2, hD2⟩ := wj_join hP hD hk1 hF hP1 hD1
  rw [← List.flatten_append] at hP2 hD2
  exact kk u hw H1 locs1 ls hP2 hD2 hS1 hl
theorem j_callSNi {U : Type} (C : Cx K cc nL own ret rm) {y : MethodName} {c2 : ByteArray} {mL2 index : Nat} {rt2 : Option FieldType} {rm2 : Room} {As : List Value} {wc wr : List va_W} {post : Int → U → Prop} {w1 : U → List va_W} (hM : MI (kl K) y c2 mL2 rt2 rm2 (kD K) (kC K) As wc post w1) {host : String} (n : Nat) (nf : y.cls ≠ "java/lang/invoke/MethodHandle" ∧ y.cls ≠ "java/lang/invoke/VarHandle" ∧ (parseMethodDescriptor y.desc).map (fun d => d.parameters.length) = some n) (hL : Cond.methodLinkNest own index y host ∈ lw_tbl) (hI : Cond.static y ∈ GW) (hIn : Cond.initialized y.cls ∈ GW) (hCd : Cond.code y c2 mL2 rt2 ∈ GW) (hn : As.length = n) (hlv : lv.length = nL)
    (hR0 : rm2.frames + 1 ≤ rm.frames ∧ 8 + (mL2 + 11) + rm2.locals ≤ rm.locals) (hd : decode cc pc = .ok (.invokestatic index, 3)) (hsk : (sk.map fun v => v.category).sum ≤ 8) (hs0 : ce + rm2.cells ≤ rm.cells ∧ sl + rm2.slots ≤ rm.slots)
    (kk : ∀ (x : Int) (u : U), post x u → J K (ce + rm2.cells) (sl + rm2.slots) (w1 u ++ wr) lv (pc + 3) (.int (iI x) :: sk)) : J K ce sl (wc ++ wr) lv pc (As.reverse ++ sk) := fun H locs ls hP hD hS hl => by
  have hkR : kR K = rm := C.2.2.2.2.2.2.2.2.2.1
  have hR : rm2.frames + 1 ≤ (kR K).frames ∧ 8 + (mL2 + 11) + rm2.locals ≤ (kR K).locals := by rw [hkR]; exact hR0
  have hs : ce + rm2.cells ≤ (kR K).cells ∧ sl + rm2.slots ≤ (kR K).slots := by rw [hkR]; exact hs0
  rw [List.flatten_append] at hP hD
  have hPc := vaP_l hP
  have hDc := vaD_l hD
  have hF := kF_of C hDc hS
  refine va_calli (va_runSN (As := As) (rest := sk) ⟨C.1, C.2.1, C.2.2.1, C.2.2.2.1, C.2.2.2.2.1⟩ (hM H.size) ⟨va_cnB n C.2.2.2.2.1 (gU_code hCd) rfl rfl rfl (C.2.2.2.2.2.2.2.2.2.2 _ (List.mem_filter.mpr ⟨hL, rfl⟩)) (C.2.2.2.2.1 _ hIn) nf hR, C.2.2.2.2.1 _ hI, trivial⟩ ⟨pcJ_blind, fun U hU hW => ⟨rfl, by rw [hU], by rw [hU]; exact hPc, va_K.moved hW.alike C.2.2.2.2.2.2.2.1, NW.warm hW C.2.2.2.2.2.2.2.2.2.2, hDc.weaken (fun _ _ _ _ => trivial)⟩⟩ rfl hn (hl.1.trans hlv) rfl (lv_room hsk) hd hs) hS (fun q _ h => hF q h) hF (fun r u t H1 locs1 ht hvm hw hB hz1 hk1 hS1 => ?_)
  obtain ⟨x, rfl, hx⟩ := hw
  obtain ⟨hP1, hD1⟩ := hB
  rw [ht] at hP1
  obtain ⟨hP2, hD2⟩ := wj_join hP hD hk1 hF hP1 hD1
  rw [← List.flatten_append] at hP2 hD2
  exact kk x u hx H1 locs1 ls hP2 hD2 hS1 hl
theorem j_callSNv {U : Type} (C : Cx K cc nL own ret rm) {y : MethodName} {c2 : ByteArray} {mL2 index : Nat} {rt2 : Option FieldType} {rm2 : Room} {As : List Value} {wc wr : List va_W} {post : U → Prop} {w1 : U → List va_W} (hM : MV (kl K) y c2 mL2 rt2 rm2 (kD K) (kC K) As wc post w1) {host : String} (n : Nat) (nf : y.cls ≠ "java/lang/invoke/MethodHandle" ∧ y.cls ≠ "java/lang/invoke/VarHandle" ∧ (parseMethodDescriptor y.desc).map (fun d => d.parameters.length) = some n) (hL : Cond.methodLinkNest own index y host ∈ lw_tbl) (hI : Cond.static y ∈ GW) (hIn : Cond.initialized y.cls ∈ GW) (hCd : Cond.code y c2 mL2 rt2 ∈ GW) (hn : As.length = n) (hlv : lv.length = nL)
    (hR0 : rm2.frames + 1 ≤ rm.frames ∧ 8 + (mL2 + 11) + rm2.locals ≤ rm.locals) (hd : decode cc pc = .ok (.invokestatic index, 3)) (hsk : (sk.map fun v => v.category).sum ≤ 8) (hs0 : ce + rm2.cells ≤ rm.cells ∧ sl + rm2.slots ≤ rm.slots)
    (kk : ∀ (u : U), post u → J K (ce + rm2.cells) (sl + rm2.slots) (w1 u ++ wr) lv (pc + 3) (sk)) : J K ce sl (wc ++ wr) lv pc (As.reverse ++ sk) := fun H locs ls hP hD hS hl => by
  have hkR : kR K = rm := C.2.2.2.2.2.2.2.2.2.1
  have hR : rm2.frames + 1 ≤ (kR K).frames ∧ 8 + (mL2 + 11) + rm2.locals ≤ (kR K).locals := by rw [hkR]; exact hR0
  have hs : ce + rm2.cells ≤ (kR K).cells ∧ sl + rm2.slots ≤ (kR K).slots := by rw [hkR]; exact hs0
  rw [List.flatten_append] at hP hD
  have hPc := vaP_l hP
  have hDc := vaD_l hD
  have hF := kF_of C hDc hS
  refine va_callv (va_runSN (As := As) (rest := sk) ⟨C.1, C.2.1, C.2.2.1, C.2.2.2.1, C.2.2.2.2.1⟩ (hM H.size) ⟨va_cnB n C.2.2.2.2.1 (gU_code hCd) rfl rfl rfl (C.2.2.2.2.2.2.2.2.2.2 _ (List.mem_filter.mpr ⟨hL, rfl⟩)) (C.2.2.2.2.1 _ hIn) nf hR, C.2.2.2.2.1 _ hI, trivial⟩ ⟨pcJ_blind, fun U hU hW => ⟨rfl, by rw [hU], by rw [hU]; exact hPc, va_K.moved hW.alike C.2.2.2.2.2.2.2.1, NW.warm hW C.2.2.2.2.2.2.2.2.2.2, hDc.weaken (fun _ _ _ _ => trivial)⟩⟩ rfl hn (hl.1.trans hlv) rfl (lv_room hsk) hd hs) hS (fun q _ h => hF q h) hF (fun u t H1 locs1 ht hvm hw hB hz1 hk1 hS1 => ?_)
  obtain ⟨hP1, hD1⟩ := hB
  rw [ht] at hP1
  obtain ⟨hP2, hD2⟩ := wj_join hP hD hk1 hF hP1 hD1
  rw [← List.flatten_append] at hP2 hD2
  exact kk u hw H1 locs1 ls hP2 hD2 hS1 hl
theorem j_callINv {U : Type} (C : Cx K cc nL own ret rm) {y : MethodName} {c2 : ByteArray} {mL2 index b : Nat} {rt2 : Option FieldType} {rm2 : Room} {As : List Value} {wc wr : List va_W} {post : U → Prop} {w1 : U → List va_W} (hM : MV (kl K) y c2 mL2 rt2 rm2 (kD K) (kC K) (.ref b :: As) wc post w1) {host : String} (n : Nat) (nf : y.cls ≠ "java/lang/invoke/MethodHandle" ∧ y.cls ≠ "java/lang/invoke/VarHandle" ∧ (parseMethodDescriptor y.desc).map (fun d => d.parameters.length) = some n) (hy1 : y.name = "<init>") (hrt : rt2 = none) (hL : Cond.methodLinkNest own index y host ∈ lw_tbl) (hI : Cond.instanceMethod y ∈ GW) (hIn : Cond.initialized y.cls ∈ GW) (hCd : Cond.code y c2 mL2 rt2 ∈ GW) (hn : As.length = n) (hlv : lv.length = nL)
    (hR0 : rm2.frames + 1 ≤ rm.frames ∧ 8 + (mL2 + 11) + rm2.locals ≤ rm.locals) (hd : decode cc pc = .ok (.invokespecial index, 3)) (hsk : (sk.map fun v => v.category).sum ≤ 8) (hs0 : ce + rm2.cells ≤ rm.cells ∧ sl + rm2.slots ≤ rm.slots)
    (kk : ∀ (u : U), post u → J K (ce + rm2.cells) (sl + rm2.slots) (w1 u ++ wr) lv (pc + 3) (sk)) : J K ce sl (wc ++ wr) lv pc (As.reverse ++ .ref b :: sk) := fun H locs ls hP hD hS hl => by
  have hkR : kR K = rm := C.2.2.2.2.2.2.2.2.2.1
  have hR : rm2.frames + 1 ≤ (kR K).frames ∧ 8 + (mL2 + 11) + rm2.locals ≤ (kR K).locals := by rw [hkR]; exact hR0
  have hs : ce + rm2.cells ≤ (kR K).cells ∧ sl + rm2.slots ≤ (kR K).slots := by rw [hkR]; exact hs0
  rw [List.flatten_append] at hP hD
  have hPc := vaP_l hP
  have hDc := vaD_l hD
  have hF := kF_of C hDc hS
  subst hrt
  refine va_callv (va_runIN (As := As) (rest := sk) ⟨C.1, C.2.1, C.2.2.1, C.2.2.2.1, C.2.2.2.2.1⟩ (hM H.size) ⟨va_cnB n C.2.2.2.2.1 (gU_code hCd) rfl rfl rfl (C.2.2.2.2.2.2.2.2.2.2 _ (List.mem_filter.mpr ⟨hL, rfl⟩)) (C.2.2.2.2.1 _ hIn) nf hR, hy1, C.2.2.2.2.1 _ hI⟩ ⟨pcJ_blind, fun U hU hW => ⟨rfl, by rw [hU], by rw [hU]; exact hPc, va_K.moved hW.alike C.2.2.2.2.2.2.2.1, NW.warm hW C.2.2.2.2.2.2.2.2.2.2, hDc.weaken (fun _ _ _ _ => trivial)⟩⟩ rfl hn (hl.1.trans hlv) rfl (lv_room hsk) hd hs) hS (fun q _ h => hF q h) hF (fun u t H1 locs1 ht hvm hw hB hz1 hk1 hS1 => ?_)
  obtain ⟨hP1, hD1⟩ := hB
  rw [ht] at hP1
  obtain ⟨hP2, hD2⟩ := wj_join hP hD hk1 hF hP1 hD1
  rw [← List.flatten_append] at hP2 hD2
  exact kk u hw H1 locs1 ls hP2 hD2 hS1 hl
theorem j_callIv {U : Type} (C : Cx K cc nL own ret rm) {y : MethodName} {c2 : ByteArray} {mL2 index b : Nat} {rt2 : Option FieldType} {rm2 : Room} {As : List Value} {wc wr : List va_W} {post : U → Prop} {w1 : U → List va_W} (hM : MV (kl K) y c2 mL2 rt2 rm2 (kD K) (kC K) (.ref b :: As) wc post w1) (n : Nat) (nf : y.cls ≠ "java/lang/invoke/MethodHandle" ∧ y.cls ≠ "java/lang/invoke/VarHandle" ∧ (parseMethodDescriptor y.desc).map (fun d => d.parameters.length) = some n) (hy1 : y.name = "<init>") (hrt : rt2 = none) (hL : Cond.methodLink own index y ∈ GW) (hI : Cond.instanceMethod y ∈ GW) (hIn : Cond.initialized y.cls ∈ GW) (hCd : Cond.code y c2 mL2 rt2 ∈ GW) (hn : As.length = n) (hlv : lv.length = nL)
    (hR0 : rm2.frames + 1 ≤ rm.frames ∧ 8 + (mL2 + 11) + rm2.locals ≤ rm.locals) (hd : decode cc pc = .ok (.invokespecial index, 3)) (hsk : (sk.map fun v => v.category).sum ≤ 8) (hs0 : ce + rm2.cells ≤ rm.cells ∧ sl + rm2.slots ≤ rm.slots)
    (kk : ∀ (u : U), post u → J K (ce + rm2.cells) (sl + rm2.slots) (w1 u ++ wr) lv (pc + 3) (sk)) : J K ce sl (wc ++ wr) lv pc (As.reverse ++ .ref b :: sk) := fun H locs ls hP hD hS hl => by
  have hkR : kR K = rm := C.2.2.2.2.2.2.2.2.2.1
  have hR : rm2.frames + 1 ≤ (kR K).frames ∧ 8 + (mL2 + 11) + rm2.locals ≤ (kR K).locals := by rw [hkR]; exact hR0
  have hs : ce + rm2.cells ≤ (kR K).cells ∧ sl + rm2.slots ≤ (kR K).slots := by rw [hkR]; exact hs0
  rw [List.flatten_append] at hP hD
  have hPc := vaP_l hP
  have hDc := vaD_l hD
  have hF := kF_of C hDc hS
  subst hrt
  refine va_callv (va_runI (As := As) (rest := sk) ⟨C.1, C.2.1, C.2.2.1, C.2.2.2.1, C.2.2.2.2.1⟩ (hM H.size) (cwI n C.2.2.2.2.1 (gU_code hCd) rfl rfl rfl (C.2.2.2.2.1 _ hIn) (C.2.2.2.2.1 _ hL) (C.2.2.2.2.1 _ hI) hy1 nf hR) ⟨pcJ_blind, fun U hU hW => ⟨rfl, by rw [hU], by rw [hU]; exact hPc, va_K.moved hW.alike C.2.2.2.2.2.2.2.1, NW.warm hW C.2.2.2.2.2.2.2.2.2.2, hDc.weaken (fun _ _ _ _ => trivial)⟩⟩ rfl hn (hl.1.trans hlv) rfl (lv_room hsk) hd hs) hS (fun q _ h => hF q h) hF (fun u t H1 locs1 ht hvm hw hB hz1 hk1 hS1 => ?_)
  obtain ⟨hP1, hD1⟩ := hB
  rw [ht] at hP1
  obtain ⟨hP2, hD2⟩ := wj_join hP hD hk1 hF hP1 hD1
  rw [← List.flatten_append] at hP2 hD2
  exact kk u hw H1 locs1 ls hP2 hD2 hS1 hl
theorem m_startI {U : Type} {l : Launch} {y : MethodName} {c : ByteArray} {mL : Nat} {rt : Option FieldType} {rm : Room} {D : va_G} {cA : Nat → ClassId} {av : List Value} {ws : List va_W} {post : Int → U → Prop} {w1 : U → List va_W} (hy : plainName y.cls = true) (hrt : rt = some .int) (hcat : ∀ v ∈ av, v.category = 1) (hlen : av.length ≤ mL)
    (body : ∀ K : KT, Cx K c mL y.cls rt rm → kl K = l → kD K = D → kC K = cA → (kM K).name = y.name → RI K c rm post w1 → J K 0 0 ws (av.map some ++ List.replicate (mL - av.length) none) 0 []) : MI l y c mL rt rm D cA av ws post w1 := by
  intro sz
  refine Met.ofW (cc := c) (maxL := mL) (ret := rt) hy rfl ?_
  intro p e s m args below meth cd s₁ B hml hv
  obtain ⟨rfl, hsz, hP0, hK, hN, hD0⟩ := hv
  have hts : ∀ w ∈ GW, w.before av.toArray s = true := fun w hw => atoms_spec (ws := .code y c mL rt :: GW) B.pre w (List.mem_cons_of_mem _ hw)
  subst hsz
  rw [lg_entry_eq]
  refine body (p, l, e, rm, s, m, av.toArray, below, meth, cd, va_A ws.flatten s.heap.size, D, cA, MQ below (va_Qi (fun (r : Int32) (u : U) => ∃ x : Int, r = iI x ∧ post x u) (fun u t => wJ D (va_A ws.flatten s.heap.size) (w1 u) t) (va_A ws.flatten s.heap.size)) av.toArray s rm.cells rm.slots (va_A ws.flatten s.heap.size)) ⟨B.exec, B.bytes, hml, findClass_of_methodNamed B.named, hts, B.returns, B.notSynchronized, hK, fun q h => Or.inr h, rfl, hN⟩ rfl rfl rfl (name_of_methodNamed B.named B.method).1 ?_ s.heap [] _ hP0 hD0.self va_S.rf (lL_entry hcat hlen)
  intro ce sl pc lv ws' x u hd hp he h1 h2 H locs ls hP hD hS hl
  subst he
  refine W.widen h1 h2 ?_
  exact W.iret B.exec B.bytes (B.returns.trans hrt) (fun t ht hW => ⟨⟨iI x, u, rfl, ⟨x, rfl, hp⟩, by rw [ht]; exact hP, hD⟩, hS.F ht⟩) hS.2.2 hd B.notSynchronized
theorem nar_z2 {y : Int} (h : y = 0 ∨ y = 1) : narrow .boolean (.int (iI y)) = .int (iI y) := by
  rcases h with rfl | rfl <;> rfl
theorem m_startZ {U : Type} {l : Launch} {y : MethodName} {c : ByteArray} {mL : Nat} {rt : Option FieldType} {rm : Room} {D : va_G} {cA : Nat → ClassId} {av : List Value} {ws : List va_W} {post : Int → U → Prop} {w1 : U → List va_W} (hy : plainName y.cls = true) (hrt : rt = some .boolean) (hcat : ∀ v ∈ av, v.category = 1) (hlen : av.length ≤ mL)
    (body : ∀ K : KT, Cx K c mL y.cls rt rm → kl K = l → kD K = D → kC K = cA → (kM K).name = y.name → RZ K c rm post w1 → J K 0 0 ws (av.map some ++ List.replicate (mL - av.length) none) 0 []) : MI l y c mL rt rm D cA av ws post w1 := by
  intro sz
  refine Met.ofW (cc := c) (maxL := mL) (ret := rt) hy rfl ?_
  intro p e s m args below meth cd s₁ B hml hv
  obtain ⟨rfl, hsz, hP0, hK, hN, hD0⟩ := hv
  have hts : ∀ w ∈ GW, w.before av.toArray s = true := fun w hw => atoms_spec (ws := .code y c mL rt :: GW) B.pre w (List.mem_cons_of_mem _ hw)
  subst hsz
  rw [lg_entry_eq]
  refine body (p, l, e, rm, s, m, av.toArray, below, meth, cd, va_A ws.flatten s.heap.size, D, cA, MQ below (va_Qi (fun (r : Int32) (u : U) => ∃ x : Int, r = iI x ∧ post x u) (fun u t => wJ D (va_A ws.flatten s.heap.size) (w1 u) t) (va_A ws.flatten s.heap.size)) av.toArray s rm.cells rm.slots (va_A ws.flatten s.heap.size)) ⟨B.exec, B.bytes, hml, findClass_of_methodNamed B.named, hts, B.returns, B.notSynchronized, hK, fun q h => Or.inr h, rfl, hN⟩ rfl rfl rfl (name_of_methodNamed B.named B.method).1 ?_ s.heap [] _ hP0 hD0.self va_S.rf (lL_entry hcat hlen)
  intro ce sl pc lv ws' x u hd hz hp he h1 h2 H locs ls hP hD hS hl
  subst he
  refine W.widen h1 h2 ?_
  exact W.zret B.exec B.bytes (B.returns.trans hrt) (nar_z2 hz) (fun t ht hW => ⟨⟨iI x, u, rfl, ⟨x, rfl, hp⟩, by rw [ht]; exact hP, hD⟩, hS.F ht⟩) hS.2.2 hd B.notSynchronized
theorem m_startL {U : Type} {l : Launch} {y : MethodName} {c : ByteArray} {mL : Nat} {rt : Option FieldType} {rm : Room} {D : va_G} {cA : Nat → ClassId} {av : List Value} {ws : List va_W} {post : Int → U → Prop} {w1 : U → List va_W} (hy : plainName y.cls = true) (hrt : rt = some .long) (hcat : ∀ v ∈ av, v.category = 1) (hlen : av.length ≤ mL)
    (body : ∀ K : KT, Cx K c mL y.cls rt rm → kl K = l → kD K = D → kC K = cA → (kM K).name = y.name → RL' K c rm post w1 → J K 0 0 ws (av.map some ++ List.replicate (mL - av.length) none) 0 []) : ML l y c mL rt rm D cA av ws post w1 := by
  intro sz
  refine Met.ofW (cc := c) (maxL := mL) (ret := rt) hy rfl ?_
  intro p e s m args below meth cd s₁ B hml hv
  obtain ⟨rfl, hsz, hP0, hK, hN, hD0⟩ := hv
  have hts : ∀ w ∈ GW, w.before av.toArray s = true := fun w hw => atoms_spec (ws := .code y c mL rt :: GW) B.pre w (List.mem_cons_of_mem _ hw)
  subst hsz
  rw [lg_entry_eq]
  refine body (p, l, e, rm, s, m, av.toArray, below, meth, cd, va_A ws.flatten s.heap.size, D, cA, MQ below (va_Ql (fun (r : Int64) (u : U) => ∃ x : Int, r = lI x ∧ post x u) (fun u t => wJ D (va_A ws.flatten s.heap.size) (w1 u) t) (va_A ws.flatten s.heap.size)) av.toArray s rm.cells rm.slots (va_A ws.flatten s.heap.size)) ⟨B.exec, B.bytes, hml, findClass_of_methodNamed B.named, hts, B.returns, B.notSynchronized, hK, fun q h => Or.inr h, rfl, hN⟩ rfl rfl rfl (name_of_methodNamed B.named B.method).1 ?_ s.heap [] _ hP0 hD0.self va_S.rf (lL_entry hcat hlen)
  intro ce sl pc lv ws' x u hd hp he h1 h2 H locs ls hP hD hS hl
  subst he
  refine W.widen h1 h2 ?_
  exact W.lret B.exec B.bytes (B.returns.trans hrt) (fun t ht hW => ⟨⟨lI x, u, rfl, ⟨x, rfl, hp⟩, by rw [ht]; exact hP, hD⟩, hS.F ht⟩) hS.2.2 hd B.notSynchronized
theorem m_startV {U : Type} {l : Launch} {y : MethodName} {c : ByteArray} {mL : Nat} {rt : Option FieldType} {rm : Room} {D : va_G} {cA : Nat → ClassId} {av : List Value} {ws : List va_W} {post : U → Prop} {w1 : U → List va_W} (hy : plainName y.cls = true) (hrt : rt = none) (hcat : ∀ v ∈ av, v.category = 1) (hlen : av.length ≤ mL)
    (body : ∀ K : KT, Cx K c mL y.cls rt rm → kl K = l → kD K = D → kC K = cA → (kM K).name = y.name → RV K c rm post w1 → J K 0 0 ws (av.map some ++ List.replicate (mL - av.length) none) 0 []) : MV l y c mL rt rm D cA av ws post w1 := by
  intro sz
  refine Met.ofW (cc := c) (maxL := mL) (ret := rt) hy rfl ?_
  intro p e s m args below meth cd s₁ B hml hv
  obtain ⟨rfl, hsz, hP0, hK, hN, hD0⟩ := hv
  have hts : ∀ w ∈ GW, w.before av.toArray s = true := fun w hw => atoms_spec (ws := .code y c mL rt :: GW) B.pre w (List.mem_cons_of_mem _ hw)
  subst hsz
  rw [lg_entry_eq]
  refine body (p, l, e, rm, s, m, av.toArray, below, meth, cd, va_A ws.flatten s.heap.size, D, cA, MQ below (va_Qv post (fun u t => wJ D (va_A ws.flatten s.heap.size) (w1 u) t) (va_A ws.flatten s.heap.size)) av.toArray s rm.cells rm.slots (va_A ws.flatten s.heap.size)) ⟨B.exec, B.bytes, hml, findClass_of_methodNamed B.named, hts, B.returns, B.notSynchronized, hK, fun q h => Or.inr h, rfl, hN⟩ rfl rfl rfl (name_of_methodNamed B.named B.method).1 ?_ s.heap [] _ hP0 hD0.self va_S.rf (lL_entry hcat hlen)
  intro ce sl pc lv ws' u hd hp he h1 h2 H locs ls hP hD hS hl
  subst he
  refine W.widen h1 h2 ?_
  exact W.vret B.exec B.bytes (B.returns.trans hrt) (fun t ht hW => ⟨⟨u, rfl, hp, by rw [ht]; exact hP, hD⟩, hS.F ht⟩) hS.2.2 hd B.notSynchronized
end JR
