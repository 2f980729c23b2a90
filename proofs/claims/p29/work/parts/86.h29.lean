/-! p29: the class's world in one block; the law's helpers -/
abbrev AT : Type := Nat × Nat × (Nat → Nat) × (Nat → Nat) × (Nat → Nat) × (Nat → Nat) × (Nat → Nat) × (Nat → Nat)
abbrev SC : Type := (Int → Int) × (Int → Int) × (Int → Int) × (Int → Int) × Int × (Int → Int) × (Int → Int) × (Int → Int) × (Int → Int)
abbrev LT : Type := List ((Nat → Nat) × (Int → Int))
def wL (cA : Nat → ClassId) (A : AT) (c : Int) (L : LT) (S : Int → Int) (u : SC) : List va_W := [prO A.1 A.2.1 A.2.2.1 A.2.2.2.1 A.2.2.2.2.1 A.2.2.2.2.2.1 A.2.2.2.2.2.2.1 c, svB cA A.2.1 L, rgO A.2.2.2.2.1 (A.2.2.2.2.2.2.2 0) u.2.2.2.2.1, dbO A.2.2.2.2.2.2.2, [(A.2.2.2.2.2.2.2 1, aJ (cA 0) 49 u.1)], [(A.2.2.2.2.2.2.2 2, aJ (cA 0) 49 u.2.1)], [(A.2.2.2.2.2.2.2 3, aJ (cA 0) 40 u.2.2.1)], [(A.2.2.2.2.1 1, aJ (cA 0) 2365 u.2.2.2.1)], [(A.2.2.2.2.1 2, aJ (cA 0) 49 (fun _ => 0))], bk cA A.2.2.1 S, bk cA A.2.2.2.1 iniS, rmO A.2.2.2.2.2.1, [(A.2.2.2.2.2.1 1, aJ (cA 0) 40 u.2.2.2.2.2.1)], [(A.2.2.2.2.2.1 2, aJ (cA 0) 7 u.2.2.2.2.2.2.1)], [(A.2.2.2.2.2.1 3, aJ (cA 0) 7 u.2.2.2.2.2.2.2.1)], [(A.2.2.2.2.2.1 4, aJ (cA 0) 7 u.2.2.2.2.2.2.2.2)], orO A.2.2.2.2.2.2.1 (fun _ => 0), [(A.2.2.2.2.2.2.1 1, aJ (cA 0) 100 (fun _ => 0))]]
def wB (cA : Nat → ClassId) (A : AT) (c : Int) (L : LT) (S : Int → Int) (u : SC) : va_W := (wL cA A c L S u).flatten
theorem fl1 (X : va_W) : [X].flatten = X := by
  rw [List.flatten_cons, List.flatten_nil, List.append_nil]
theorem wB_open {cA : Nat → ClassId} {A : AT} {c : Int} {L : LT} {S : Int → Int} {u : SC} : [wB cA A c L S u].flatten = ([prO A.1 A.2.1 A.2.2.1 A.2.2.2.1 A.2.2.2.2.1 A.2.2.2.2.2.1 A.2.2.2.2.2.2.1 c, svB cA A.2.1 L, rgO A.2.2.2.2.1 (A.2.2.2.2.2.2.2 0) u.2.2.2.2.1, dbO A.2.2.2.2.2.2.2, [(A.2.2.2.2.2.2.2 1, aJ (cA 0) 49 u.1)], [(A.2.2.2.2.2.2.2 2, aJ (cA 0) 49 u.2.1)], [(A.2.2.2.2.2.2.2 3, aJ (cA 0) 40 u.2.2.1)], [(A.2.2.2.2.1 1, aJ (cA 0) 2365 u.2.2.2.1)], [(A.2.2.2.2.1 2, aJ (cA 0) 49 (fun _ => 0))], bk cA A.2.2.1 S, bk cA A.2.2.2.1 iniS, rmO A.2.2.2.2.2.1, [(A.2.2.2.2.2.1 1, aJ (cA 0) 40 u.2.2.2.2.2.1)], [(A.2.2.2.2.2.1 2, aJ (cA 0) 7 u.2.2.2.2.2.2.1)], [(A.2.2.2.2.2.1 3, aJ (cA 0) 7 u.2.2.2.2.2.2.2.1)], [(A.2.2.2.2.2.1 4, aJ (cA 0) 7 u.2.2.2.2.2.2.2.2)], orO A.2.2.2.2.2.2.1 (fun _ => 0), [(A.2.2.2.2.2.2.1 1, aJ (cA 0) 100 (fun _ => 0))]] : List va_W).flatten := fl1 _
theorem wB_close {cA : Nat → ClassId} {A : AT} {c : Int} {L : LT} {S X F N f e1 e2 e3 e4 : Int → Int} {z : Int} : ([prO A.1 A.2.1 A.2.2.1 A.2.2.2.1 A.2.2.2.2.1 A.2.2.2.2.2.1 A.2.2.2.2.2.2.1 c, svB cA A.2.1 L, rgO A.2.2.2.2.1 (A.2.2.2.2.2.2.2 0) z, dbO A.2.2.2.2.2.2.2, [(A.2.2.2.2.2.2.2 1, aJ (cA 0) 49 X)], [(A.2.2.2.2.2.2.2 2, aJ (cA 0) 49 F)], [(A.2.2.2.2.2.2.2 3, aJ (cA 0) 40 N)], [(A.2.2.2.2.1 1, aJ (cA 0) 2365 f)], [(A.2.2.2.2.1 2, aJ (cA 0) 49 (fun _ => 0))], bk cA A.2.2.1 S, bk cA A.2.2.2.1 iniS, rmO A.2.2.2.2.2.1, [(A.2.2.2.2.2.1 1, aJ (cA 0) 40 e1)], [(A.2.2.2.2.2.1 2, aJ (cA 0) 7 e2)], [(A.2.2.2.2.2.1 3, aJ (cA 0) 7 e3)], [(A.2.2.2.2.2.1 4, aJ (cA 0) 7 e4)], orO A.2.2.2.2.2.2.1 (fun _ => 0), [(A.2.2.2.2.2.2.1 1, aJ (cA 0) 100 (fun _ => 0))]] : List va_W).flatten = [wB cA A c L S (X, F, N, f, z, e1, e2, e3, e4)].flatten := (fl1 _).symm
def SVd (c : Int) (L : LT) (S : Int → Int) (L2 : LT) : Prop := ∃ (k : Nat → Nat) (T : Int → Int), L2 = svNx c L (k, cpS T S)
def cNx (c : Int) : Int := if c < 4 then c + 1 else 4
def HCL (c : Int) (L : LT) : Prop := 0 ≤ c ∧ c ≤ 4 ∧ c ≤ (L.length : Int) ∧ L.length ≤ 4
theorem SVd_len {c : Int} {L L2 : LT} {S : Int → Int} (h : HCL c L) (hs : SVd c L S L2) : HCL (cNx c) L2 ∧ ∃ (k : Nat → Nat) (T : Int → Int) (L3 L4 : LT), L2 = L3 ++ (k, cpS T S) :: L4 ∧ cNx c = ((L3.length : Nat) : Int) + 1 := by
  obtain ⟨k, T, rfl⟩ := hs
  obtain ⟨h0, h1, h2, h3⟩ := h
  unfold svNx cNx
  by_cases q : c < 4
  · rw [if_pos q, if_pos q]
    have e : (L.take c.toNat).length = c.toNat := by
      rw [List.length_take]
      omega
    refine ⟨⟨by omega, by omega, ?_, ?_⟩, k, T, _, _, rfl, ?_⟩
    · rw [List.length_append, List.length_cons, e]
      omega
    · rw [List.length_append, List.length_cons, e, List.length_drop]
      omega
    · rw [e]
      omega
  · rw [if_neg q, if_neg q]
    have e : (L.drop 1).length = 3 := by
      rw [List.length_drop]
      omega
    refine ⟨⟨by omega, by omega, ?_, ?_⟩, k, T, _, [], rfl, ?_⟩
    · rw [List.length_append, e, List.length_singleton]
      omega
    · rw [List.length_append, e, List.length_singleton]
      omega
    · rw [e]
      omega
/-- a helper of the law, without a table -/
def MH {U : Type} (l : Launch) (y : MethodName) (c : ByteArray) (mL : Nat) (rt : Option FieldType) (rm : Room) (D : va_G) (cA : Nat → ClassId) (av : List Value) (ws : List va_W) (post : Int → U → Prop) (w1 : U → List va_W) : Prop :=
  ∀ sz : Nat, vx_Met l y (.code y c mL rt :: GW) rm (pcX D cA av ws sz) (va_Qi (fun (r : Int32) (u : U) => ∃ x : Int, r = iI x ∧ post x u) (fun u t => wJ D (va_A ws.flatten sz) (w1 u) t) (va_A ws.flatten sz)) (vx_X (fun _ : Unit => False) (fun _ _ _ => True) (va_A ws.flatten sz)) rm.cells rm.slots (va_A ws.flatten sz)
theorem m_startH {U : Type} {l : Launch} {y : MethodName} {c : ByteArray} {mL : Nat} {rt : Option FieldType} {rm : Room} {D : va_G} {cA : Nat → ClassId} {av : List Value} {ws : List va_W} {post : Int → U → Prop} {w1 : U → List va_W} (hy : plainName y.cls = true) (hrt : rt = some .boolean) (hcat : ∀ v ∈ av, v.category = 1) (hlen : av.length ≤ mL)
    (body : ∀ K : KT, Cx K c mL y.cls rt rm → kl K = l → kD K = D → kC K = cA → WX K → RZ K c rm post w1 → J K 0 0 ws (av.map some ++ List.replicate (mL - av.length) none) 0 []) : MH l y c mL rt rm D cA av ws post w1 := by
  intro sz
  refine vx_ofW (cc := c) (maxL := mL) (ret := rt) hy rfl ?_
  intro p e s m args below meth cd s₁ B hml hno hv
  obtain ⟨rfl, hsz, hP0, hK, hN, hD0, hXV, hXZ⟩ := hv
  have hts : ∀ w ∈ GW, w.before av.toArray s = true := fun w hw => atoms_spec (ws := .code y c mL rt :: GW) B.pre w (List.mem_cons_of_mem _ hw)
  subst hsz
  rw [lg_entry_eq]
  refine body (p, l, e, rm, s, m, av.toArray, below, meth, cd, va_A ws.flatten s.heap.size, D, cA, vx_MQ below (va_Qi (fun (r : Int32) (u : U) => ∃ x : Int, r = iI x ∧ post x u) (fun u t => wJ D (va_A ws.flatten s.heap.size) (w1 u) t) (va_A ws.flatten s.heap.size)) (vx_X (fun _ : Unit => False) (fun _ _ _ => True) (va_A ws.flatten s.heap.size)) av.toArray s rm.cells rm.slots (va_A ws.flatten s.heap.size)) ⟨B.exec, B.bytes, hml, findClass_of_methodNamed B.named, hts, B.returns, B.notSynchronized, hK, fun q h => Or.inr h, rfl, hN⟩ rfl rfl rfl ⟨hXV, hXZ⟩ ?_ s.heap [] _ hP0 hD0.self va_S.rf (lL_entry hcat hlen)
  intro ce sl pc lv ws' x u hd hz hp he h1 h2 H locs ls hP hD hS hl
  subst he
  refine W.widen h1 h2 ?_
  refine vx_ret ?_
  exact W.zret B.exec B.bytes (B.returns.trans hrt) (nar_z2 hz) (fun t ht hW => ⟨⟨iI x, u, rfl, ⟨x, rfl, hp⟩, by rw [ht]; exact hP, hD⟩, hS.F ht⟩) hS.2.2 hd B.notSynchronized
/-- the law's cell -/
def gX (xs : Nat → Int32) (x : Int) : Int := (xs x.toNat).toInt
def pcC (D : va_G) (cA : Nat → ClassId) (b0 Ls : Nat) (xs : Nat → Int32) (av : List Value) (sz : Nat) : Array Value → State → Prop := va_Pc av (fun U => U.heap.size = sz ∧ va_P D vwCl ([] : List va_W).flatten U.heap ∧ va_K D vwCl (tyA cA) U ∧ NW U ∧ va_D (fun _ => True) ([] : List va_W).flatten ∧ va_X b0 Ls xs U U.heap ∧ b0 < U.heap.size)
theorem pcC_blind {D : va_G} {cA : Nat → ClassId} {b0 Ls : Nat} {xs : Nat → Int32} {av : List Value} {sz : Nat} : FrameBlind (pcC D cA b0 Ls xs av sz) := fun a U g mk q => by
  obtain ⟨q0, q1, qP, qK, qN, qD, qX, qB⟩ := q
  exact ⟨q0, q1, qP, va_K.moved (u := U) (U := U.calling g mk a) (Vm.Alike.refl U.vm) qK, NW.same (u := U) (U := U.calling g mk a) rfl qN, qD, va_X.moved (u := U) (U := U.calling g mk a) (Vm.Alike.refl U.vm) qX, qB⟩
def MC (l : Launch) (y : MethodName) (c : ByteArray) (mL : Nat) (rt : Option FieldType) (rm : Room) (D : va_G) (cA : Nat → ClassId) (b0 Ls : Nat) (xs : Nat → Int32) (av : List Value) (post : Int → Prop) : Prop :=
  ∀ sz : Nat, Met l y (.code y c mL rt :: GW) rm (pcC D cA b0 Ls xs av sz) (va_Qi (fun (r : Int32) (_ : Unit) => ∃ x : Int, r = iI x ∧ post x) (fun _ t => wJ D (va_A ([] : List va_W).flatten sz) [] t) (va_A ([] : List va_W).flatten sz)) rm.cells rm.slots (va_A ([] : List va_W).flatten sz)
theorem m_startC {l : Launch} {y : MethodName} {c : ByteArray} {mL : Nat} {rt : Option FieldType} {rm : Room} {D : va_G} {cA : Nat → ClassId} {b0 Ls : Nat} {xs : Nat → Int32} {av : List Value} {post : Int → Prop} (hy : plainName y.cls = true) (hrt : rt = some .int) (hcat : ∀ v ∈ av, v.category = 1) (hlen : av.length ≤ mL)
    (body : ∀ K : KT, Cx K c mL y.cls rt rm → va_X b0 Ls xs (ks K) (ks K).heap → b0 < (ks K).heap.size → ¬ kA K b0 → RI (U := Unit) K c rm (fun x _ => post x) (fun _ => []) → J K 0 0 [] (av.map some ++ List.replicate (mL - av.length) none) 0 []) : MC l y c mL rt rm D cA b0 Ls xs av post := by
  intro sz
  refine Met.ofW (cc := c) (maxL := mL) (ret := rt) hy rfl ?_
  intro p e s m args below meth cd s₁ B hml hv
  obtain ⟨rfl, hsz, hP0, hK, hN, hD0, hX, hbl⟩ := hv
  have hts : ∀ w ∈ GW, w.before av.toArray s = true := fun w hw => atoms_spec (ws := .code y c mL rt :: GW) B.pre w (List.mem_cons_of_mem _ hw)
  subst hsz
  rw [lg_entry_eq]
  refine body (p, l, e, rm, s, m, av.toArray, below, meth, cd, va_A ([] : List va_W).flatten s.heap.size, D, cA, MQ below (va_Qi (fun (r : Int32) (_ : Unit) => ∃ x : Int, r = iI x ∧ post x) (fun _ t => wJ D (va_A ([] : List va_W).flatten s.heap.size) [] t) (va_A ([] : List va_W).flatten s.heap.size)) av.toArray s rm.cells rm.slots (va_A ([] : List va_W).flatten s.heap.size)) ⟨B.exec, B.bytes, hml, findClass_of_methodNamed B.named, hts, B.returns, B.notSynchronized, hK, fun q h => Or.inr h, rfl, hN⟩ hX hbl (fun h => ?_) ?_ s.heap [] _ hP0 hD0.self va_S.rf (lL_entry hcat hlen)
  · rcases h with ⟨w, e9, hw⟩ | h
    · simp at hw
    · exact absurd hbl (Nat.not_lt.mpr h)
  · intro ce sl pc lv ws' x u hd hp he h1 h2 H locs ls hP hD hS hl
    subst he
    refine W.widen h1 h2 ?_
    exact W.iret B.exec B.bytes (B.returns.trans hrt) (fun t ht hW => ⟨⟨iI x, (), rfl, ⟨x, rfl, hp⟩, by rw [ht]; exact hP, hD⟩, hS.F ht⟩) hS.2.2 hd B.notSynchronized
theorem gX_bd (xs : Nat → Int32) (x : Int) : -2147483648 ≤ gX xs x ∧ gX xs x < 2147483648 := ⟨by have := Int32.le_toInt (xs x.toNat); unfold gX; omega, by have := Int32.toInt_lt (xs x.toNat); unfold gX; omega⟩
theorem and_nn (v : Int32) : ∃ w : Int, (0 ≤ w ∧ w ≤ 2147483647) ∧ v &&& iI 2147483647 = iI w := by
  refine ⟨(v &&& iI 2147483647).toInt, ?_, (Int32.ofInt_toInt _).symm⟩
  have h : (v &&& iI 2147483647).toBitVec.msb = false := by
    rw [Int32.toBitVec_and, BitVec.msb_and, show (iI 2147483647).toBitVec.msb = false by decide, Bool.and_false]
  have e := BitVec.toInt_eq_msb_cond (v &&& iI 2147483647).toBitVec
  rw [h] at e
  have e2 : (v &&& iI 2147483647).toInt = ((v &&& iI 2147483647).toBitVec.toNat : Int) := e
  have h2 := Int32.toInt_lt (v &&& iI 2147483647)
  omega
section
variable {K : KT} {cc : ByteArray} {nL : Nat} {own : String} {ret : Option FieldType} {rm : Room} {ce sl pc : Nat} {ws : List va_W} {lv : List (Option Value)} {sk : List Value}
theorem j_sld (C : Cx K cc nL own ret rm) {b0 Ls : Nat} {xs : Nat → Int32} (hX : va_X b0 Ls xs (ks K) (ks K).heap) (hbl : b0 < (ks K).heap.size) (hbA : ¬ kA K b0) (hL : Ls ≤ 260) {x : Int} (hd : decode cc pc = .ok (.iaload, 1)) (h0 : 0 ≤ x) (h1 : x < (Ls : Int)) (k : J K ce sl ws lv (pc + 1) (.int (iI (gX xs x)) :: sk)) : J K ce sl ws lv pc (.int (iI x) :: .ref b0 :: sk) := fun H locs ls hP hD hS hl => by
  refine va_sld C.1 C.2.1 hX hbl hbA hS (vp_in_iI h0 h1 (by omega)) hd ?_
  have e := iI_clamp h0 (show x < 2147483648 by omega)
  rw [show (iI x).toNatClampNeg = x.toNat by omega, show xs x.toNat = iI (gX xs x) from (Int32.ofInt_toInt _).symm]
  exact k H locs ls hP hD hS hl
theorem ofNat_iI (n : Nat) : Int32.ofNat n = iI (n : Int) := by
  first
  | rfl
  | exact (Int32.ofInt_natCast n).symm
  | simp [iI]
theorem j_slen (C : Cx K cc nL own ret rm) {b0 Ls : Nat} {xs : Nat → Int32} (hX : va_X b0 Ls xs (ks K) (ks K).heap) (hbl : b0 < (ks K).heap.size) (hbA : ¬ kA K b0) (hd : decode cc pc = .ok (.arraylength, 1)) (k : J K ce sl ws lv (pc + 1) (.int (iI (Ls : Int)) :: sk)) : J K ce sl ws lv pc (.ref b0 :: sk) := fun H locs ls hP hD hS hl => by
  refine va_slen C.1 C.2.1 hX hbl hbA hS hd ?_
  rw [ofNat_iI]
  exact k H locs ls hP hD hS hl
theorem lv_lcmpE {p : Program} {l : Launch} {e : Env} {R : Room} {s : State} {m : MethodId} {args : Array Value} {below : List Frame} {meth : Method} {c : Code} {H : Heap} {locs : List Loc} {cells slots : Nat} {Q : State → Prop} {ls : Array Slot} {rest : List Value} (hexec : p.tables.exec = Jvm.exec) (hb : c.code = cc) {x : Int64} (hdg : decode cc pc = .ok (.lcmp, 1))
    (k : W p l e R s m args below meth c H locs cells slots Q (F0 m (pc + 1) ls (.int 0 :: rest))) : W p l e R s m args below meth c H locs cells slots Q (F0 m pc ls (.long x :: .long x :: rest)) := by
  intro T hT X
  obtain ⟨t, a, b⟩ := k T hT X
  refine ⟨t, ?_, b⟩
  jvm_step X.here [X.here.top, hexec, hb, hdg]
  first | exact a | (simp at a ⊢; exact a) | (simp; exact a)
theorem j_lcmpE (C : Cx K cc nL own ret rm) {x y : Int} (hd : decode cc pc = .ok (.lcmp, 1)) (h : x = y) (k : J K ce sl ws lv (pc + 1) (.int (iI 0) :: sk)) : J K ce sl ws lv pc (.long (lI y) :: .long (lI x) :: sk) := fun H locs ls hP hD hS hl => by
  subst h
  refine lv_lcmpE C.1 C.2.1 hd ?_
  rw [iI_zero]
  exact k H locs ls hP hD hS hl
theorem j_callH {U : Type} (C : Cx K cc nL own ret rm) (XK : WX K) {y : MethodName} {c2 : ByteArray} {mL2 index : Nat} {rt2 : Option FieldType} {rm2 : Room} {As : List Value} {wc wr : List va_W} {post : Int → U → Prop} {w1 : U → List va_W} (hM : MH (kl K) y c2 mL2 rt2 rm2 (kD K) (kC K) As wc post w1) (n : Nat) (nf : y.cls ≠ "java/lang/invoke/MethodHandle" ∧ y.cls ≠ "java/lang/invoke/VarHandle" ∧ (parseMethodDescriptor y.desc).map (fun d => d.parameters.length) = some n) (hL : Cond.methodLink own index y ∈ GW) (hI : Cond.static y ∈ GW) (hIn : Cond.initialized y.cls ∈ GW) (hCd : Cond.code y c2 mL2 rt2 ∈ GW) (hn : As.length = n) (hlv : lv.length = nL)
    (hR0 : rm2.frames + 1 ≤ rm.frames ∧ 8 + (mL2 + 11) + rm2.locals ≤ rm.locals) (hd : decode cc pc = .ok (.invokestatic index, 3)) (hsk : (sk.map fun v => v.category).sum ≤ 8) (hs0 : ce + rm2.cells ≤ rm.cells ∧ sl + rm2.slots ≤ rm.slots)
    (kk : ∀ (x : Int) (u : U), post x u → J K (ce + rm2.cells) (sl + rm2.slots) (w1 u ++ wr) lv (pc + 3) (.int (iI x) :: sk)) : J K ce sl (wc ++ wr) lv pc (As.reverse ++ sk) := fun H locs ls hP hD hS hl => by
  have hkR : kR K = rm := C.2.2.2.2.2.2.2.2.2.1
  have hR : rm2.frames + 1 ≤ (kR K).frames ∧ 8 + (mL2 + 11) + rm2.locals ≤ (kR K).locals := by rw [hkR]; exact hR0
  have hs : ce + rm2.cells ≤ (kR K).cells ∧ sl + rm2.slots ≤ (kR K).slots := by rw [hkR]; exact hs0
  rw [List.flatten_append] at hP hD
  have hPc := vaP_l hP
  have hDc := vaD_l hD
  have hF := kF_of C hDc hS
  refine vx_calli (vx_runS (As := As) (rest := sk) ⟨C.1, C.2.1, C.2.2.1, C.2.2.2.1, C.2.2.2.2.1⟩ (hM H.size) (va_cwS n C.2.2.2.2.1 (gU_S hL hI hIn hCd) rfl rfl rfl nf hR) ⟨pcX_blind, fun U hU hW => ⟨rfl, by rw [hU], by rw [hU]; exact hPc, va_K.moved hW.alike C.2.2.2.2.2.2.2.1, NW.warm hW C.2.2.2.2.2.2.2.2.2.2, hDc.weaken (fun _ _ _ _ => trivial), wx_callee XK hF hS hU hW⟩⟩ rfl hn (hl.1.trans hlv) rfl (lv_room hsk) hd hs) hS (fun q _ h => hF q h) hF (fun q _ h => hF q h) (fun E' ce9 q9 u t H1 locs1 ht hvm hp hB hz1 hk1 hS1 hcell hcv hcl => hp.elim) (fun r u t H1 locs1 ht hvm hw hB hz1 hk1 hS1 => ?_)
  obtain ⟨x, rfl, hx⟩ := hw
  obtain ⟨hP1, hD1⟩ := hB
  rw [ht] at hP1
  obtain ⟨hP2, hD2⟩ := wj_join hP hD hk1 hF hP1 hD1
  rw [← List.flatten_append] at hP2 hD2
  exact kk x u hx H1 locs1 ls hP2 hD2 hS1 hl
theorem j_callC (C : Cx K cc nL own ret rm) {b0 Ls : Nat} {xs : Nat → Int32} (hX : va_X b0 Ls xs (ks K) (ks K).heap) (hbl : b0 < (ks K).heap.size) (hbA : ¬ kA K b0) {y : MethodName} {c2 : ByteArray} {mL2 index : Nat} {rt2 : Option FieldType} {rm2 : Room} {As : List Value} {post : Int → Prop} (hM : MC (kl K) y c2 mL2 rt2 rm2 (kD K) (kC K) b0 Ls xs As post) (n : Nat) (nf : y.cls ≠ "java/lang/invoke/MethodHandle" ∧ y.cls ≠ "java/lang/invoke/VarHandle" ∧ (parseMethodDescriptor y.desc).map (fun d => d.parameters.length) = some n) (hL : Cond.methodLink own index y ∈ GW) (hI : Cond.static y ∈ GW) (hIn : Cond.initialized y.cls ∈ GW) (hCd : Cond.code y c2 mL2 rt2 ∈ GW) (hn : As.length = n) (hlv : lv.length = nL)
    (hR0 : rm2.frames + 1 ≤ rm.frames ∧ 8 + (mL2 + 11) + rm2.locals ≤ rm.locals) (hd : decode cc pc = .ok (.invokestatic index, 3)) (hsk : (sk.map fun v => v.category).sum ≤ 8) (hs0 : ce + rm2.cells ≤ rm.cells ∧ sl + rm2.slots ≤ rm.slots)
    (kk : ∀ (x : Int), post x → J K (ce + rm2.cells) (sl + rm2.slots) ws lv (pc + 3) (.int (iI x) :: sk)) : J K ce sl ws lv pc (As.reverse ++ sk) := fun H locs ls hP hD hS hl => by
  have hkR : kR K = rm := C.2.2.2.2.2.2.2.2.2.1
  have hR : rm2.frames + 1 ≤ (kR K).frames ∧ 8 + (mL2 + 11) + rm2.locals ≤ (kR K).locals := by rw [hkR]; exact hR0
  have hs : ce + rm2.cells ≤ (kR K).cells ∧ sl + rm2.slots ≤ (kR K).slots := by rw [hkR]; exact hs0
  have hP' : va_P (kD K) vwCl (([] : List va_W).flatten ++ ws.flatten) H := hP
  have hD' : va_D (kA K) (([] : List va_W).flatten ++ ws.flatten) := hD
  have hPc := vaP_l hP'
  have hDc := vaD_l hD'
  have hF := kF_of C hDc hS
  refine va_calli (va_runS (As := As) (rest := sk) ⟨C.1, C.2.1, C.2.2.1, C.2.2.2.1, C.2.2.2.2.1⟩ (hM H.size) (va_cwS n C.2.2.2.2.1 (gU_S hL hI hIn hCd) rfl rfl rfl nf hR) ⟨pcC_blind, fun U hU hW => ⟨rfl, by rw [hU], by rw [hU]; exact hPc, va_K.moved hW.alike C.2.2.2.2.2.2.2.1, NW.warm hW C.2.2.2.2.2.2.2.2.2.2, hDc.weaken (fun _ _ _ _ => trivial), by rw [hU]; exact va_X.moved hW.alike (va_X.kept hX (hS.2.1 b0 hbl hbA)), by rw [hU]; exact Nat.lt_of_lt_of_le hbl hS.1⟩⟩ rfl hn (hl.1.trans hlv) rfl (lv_room hsk) hd hs) hS (fun q _ h => hF q h) hF (fun r u t H1 locs1 ht hvm hw hB hz1 hk1 hS1 => ?_)
  obtain ⟨x, rfl, hx⟩ := hw
  obtain ⟨hP1, hD1⟩ := hB
  rw [ht] at hP1
  obtain ⟨hP2, hD2⟩ := wj_join hP' hD' hk1 hF hP1 hD1
  exact kk x hx H1 locs1 ls hP2 hD2 hS1 hl
end

