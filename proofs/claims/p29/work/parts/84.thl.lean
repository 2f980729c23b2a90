/-! throwing: what a method that throws is handed, its start and its end; wrappers that catch -/
def strsX : List (Nat × String) := [(204, "what is 0 to 10"), (93, "no such promise"), (163, "what is 0 to 7"), (46, "parties are 2 to 7"), (68, "no such party"), (75, "no such promise can be made"), (83, "there are 40 promises"), (95, "a payment is 1 or more"), (101, "the promise is of less"), (110, "the promise is disputed or not open"), (120, "the promise is not disputed"), (122, "no such ring"), (124, "a discharge is by 1 or more"), (130, "the ring has less room"), (136, "there is no ring"), (172, "place is 0 to 6"), (265, "there is no saved state")]
def ndL : List Cond := lw_tbl.filter (fun w => match w with
  | .declares _ => true
  | _ => false)
def eA : String := "java/lang/IllegalArgumentException"
def eB : String := "java/lang/IndexOutOfBoundsException"
def eC : String := "java/lang/IllegalStateException"
def exL : List String := [eA, eB, eC]
def nmX : List String := ["java/lang/RuntimeException", "java/lang/Exception"]
def XV (U : State) : Prop := (∀ q ∈ strsX, ∃ a : Nat, vk_R RX5 q.1 q.2 a U) ∧ (∀ w ∈ ndL, va_Nw w U) ∧ ∀ C ∈ exL, ∀ T ∈ exL, C ≠ T → va_Nc C T U
theorem XV.warm {s U : State} (hW : s.WarmedH U.vm) (h : XV s) : XV U := by
  refine ⟨fun q hq => ?_, fun w hw => ?_, fun E hE T hT hn => va_Nc.moved hW.alike (h.2.2 E hE T hT hn)⟩
  · obtain ⟨a, ha⟩ := h.1 q hq
    exact ⟨a, vk_R.warm hW ha⟩
  · have h1 := h.2.1 w hw
    have h2 := (List.mem_filter.mp hw).2
    cases w <;> first | exact va_Nw.warmD hW h1 | (simp at h2; done)
theorem XV.same {u U : State} (e : u.vm = U.vm) (h : XV u) : XV U := by
  refine ⟨fun q hq => ?_, fun w hw => ?_, fun E hE T hT hn => va_Nc.moved (e ▸ Vm.Alike.refl _) (h.2.2 E hE T hT hn)⟩
  · obtain ⟨a, ha⟩ := h.1 q hq
    exact ⟨a, vk_R.same e.symm ha⟩
  · have h1 := h.2.1 w hw
    have h2 := (List.mem_filter.mp hw).2
    cases w <;> first | (simp at h2; done) | exact va_Nw.same rfl e h1
def XZ (A : Nat → Prop) (U : State) (H : Heap) : Prop := vx_Zq Bundle.tN "UNASSIGNED_STACK" Bundle.steD A U H ∧ vx_Zq Bundle.tN "SUPPRESSED_SENTINEL" Bundle.listD A U H
theorem XZ.moved {A : Nat → Prop} {u U : State} {H : Heap} (hvm : u.vm.Alike U.vm) (h : XZ A u H) : XZ A U H := ⟨vx_Zq.moved hvm h.1, vx_Zq.moved hvm h.2⟩
theorem XZ.kept {A : Nat → Prop} {U : State} {H H1 : Heap} (h : XZ A U H) (hq : ∀ a : Nat, a < H.size → ¬ A a → H1[a]? = H[a]?) : XZ A U H1 := ⟨vx_Zq.kept h.1 hq, vx_Zq.kept h.2 hq⟩
theorem XZ.narrow {A B : Nat → Prop} {U : State} {H : Heap} (h : XZ A U H) (hAB : ∀ q, B q → A q) : XZ B U H := ⟨vx_Zq.narrow h.1 hAB, vx_Zq.narrow h.2 hAB⟩
def pcX (D : va_G) (cA : Nat → ClassId) (av : List Value) (ws : List va_W) (sz : Nat) : Array Value → State → Prop := va_Pc av (fun U => U.heap.size = sz ∧ va_P D vwCl ws.flatten U.heap ∧ va_K D vwCl (tyA cA) U ∧ NW U ∧ va_D (fun _ => True) ws.flatten ∧ XV U ∧ XZ (va_A ws.flatten sz) U U.heap)
theorem pcX_blind {D : va_G} {cA : Nat → ClassId} {av : List Value} {ws : List va_W} {sz : Nat} : FrameBlind (pcX D cA av ws sz) := fun a U g mk q => by
  obtain ⟨q0, q1, qP, qK, qN, qD, qX, qZ⟩ := q
  exact ⟨q0, q1, qP, va_K.moved (u := U) (U := U.calling g mk a) (Vm.Alike.refl U.vm) qK, NW.same (u := U) (U := U.calling g mk a) rfl qN, qD, XV.same (u := U) (U := U.calling g mk a) rfl qX, XZ.moved (u := U) (U := U.calling g mk a) (Vm.Alike.refl U.vm) qZ⟩
/-- a method that throws E -/
def MX {U : Type} (l : Launch) (y : MethodName) (c : ByteArray) (mL : Nat) (rt : Option FieldType) (rm : Room) (D : va_G) (cA : Nat → ClassId) (av : List Value) (ws : List va_W) (E : String) (px : U → Prop) (w1 : U → List va_W) : Prop :=
  ∀ sz : Nat, vx_Met l y (.code y c mL rt :: GW) rm (pcX D cA av ws sz) (va_Qi (fun (_ : Int32) (_ : Unit) => False) (fun _ _ => True) (va_A ws.flatten sz)) (vx_X px (fun E' u t => E' = E ∧ wJ D (va_A ws.flatten sz) (w1 u) t) (va_A ws.flatten sz)) rm.cells rm.slots (va_A ws.flatten sz)
def exW (E : String) (ik ic : Nat) : Prop := Cond.classLink RX5 ik E ∈ lw_tbl ∧ Cond.initialized E ∈ GW ∧ (∀ w ∈ vx_atS RX5 ic E nmX, w ∈ lw_tbl) ∧ (∀ w ∈ Cond.classLink RX5 ik E :: Cond.initialized E :: vx_atS RX5 ic E nmX, vx_ot w = true) ∧ (∀ w ∈ vx_atS RX5 ic E nmX, (goodWord w || xO w) = true) ∧ Bundle.fit E = true
theorem exW_A : exW eA 44 48 := ⟨xi_A, wIn_IllegalArgumentException, xa_A, xg_A, xb_A, by decide +kernel⟩
theorem exW_B : exW eB 66 70 := ⟨xi_B, wIn_IndexOutOfBoundsException, xa_B, xg_B, xb_B, by decide +kernel⟩
theorem exW_C : exW eC 81 85 := ⟨xi_C, wIn_IllegalStateException, xa_C, xg_C, xb_C, by decide +kernel⟩
theorem nmX_fit : ∀ n ∈ nmX, Bundle.fit n = true := by decide +kernel
def ThrD (cc : ByteArray) (pc ik is ic : Nat) : Prop := decode cc pc = .ok (.new ik, 3) ∧ decode cc (pc + 3) = .ok (.dup, 1) ∧ ((decode cc (pc + 4) = .ok (.ldc is, 2) ∧ decode cc (pc + 6) = .ok (.invokespecial ic, 3) ∧ decode cc (pc + 9) = .ok (.athrow, 1)) ∨ (decode cc (pc + 4) = .ok (.ldc_w is, 3) ∧ decode cc (pc + 7) = .ok (.invokespecial ic, 3) ∧ decode cc (pc + 10) = .ok (.athrow, 1)))
def RX {U : Type} (K : KT) (cc : ByteArray) (mL : Nat) (rm : Room) (E : String) (px : U → Prop) (w1 : U → List va_W) : Prop :=
  ∀ {ce sl pc : Nat} {lv : List (Option Value)} {ws : List va_W} (is ik ic : Nat) (tx : String) (u : U), exW E ik ic → (is, tx) ∈ strsX → ThrD cc pc ik is ic → px u → ws = w1 u → lv.length = mL → ce + 1 ≤ rm.cells → sl + 6 ≤ rm.slots → J K ce sl ws lv pc []
theorem m_startX {U : Type} {l : Launch} {y : MethodName} {c : ByteArray} {mL : Nat} {rt : Option FieldType} {rm : Room} {D : va_G} {cA : Nat → ClassId} {av : List Value} {ws : List va_W} {E : String} {px : U → Prop} {w1 : U → List va_W} (hfl : l.stackTraces = false) (hy : plainName y.cls = true) (hX : y.cls = RX5) (hfr : 5 < rm.frames ∧ 82 ≤ rm.locals) (hcat : ∀ v ∈ av, v.category = 1) (hlen : av.length ≤ mL)
    (body : ∀ K : KT, Cx K c mL y.cls rt rm → kl K = l → kD K = D → kC K = cA → (kM K).name = y.name → RX K c mL rm E px w1 → J K 0 0 ws (av.map some ++ List.replicate (mL - av.length) none) 0 []) : MX l y c mL rt rm D cA av ws E px w1 := by
  intro sz
  refine vx_ofW (cc := c) (maxL := mL) (ret := rt) hy rfl ?_
  intro p e s m args below meth cd s₁ B hml hno hv
  obtain ⟨rfl, hsz, hP0, hK, hN, hD0, hXV, hXZ⟩ := hv
  have hts : ∀ w ∈ GW, w.before av.toArray s = true := fun w hw => atoms_spec (ws := .code y c mL rt :: GW) B.pre w (List.mem_cons_of_mem _ hw)
  have hown : s.vm.findClass RX5 = some m.cls := hX ▸ findClass_of_methodNamed B.named
  subst hsz
  rw [lg_entry_eq]
  refine body (p, l, e, rm, s, m, av.toArray, below, meth, cd, va_A ws.flatten s.heap.size, D, cA, vx_MQ below (va_Qi (fun (_ : Int32) (_ : Unit) => False) (fun _ _ => True) (va_A ws.flatten s.heap.size)) (vx_X px (fun E' u t => E' = E ∧ wJ D (va_A ws.flatten s.heap.size) (w1 u) t) (va_A ws.flatten s.heap.size)) av.toArray s rm.cells rm.slots (va_A ws.flatten s.heap.size)) ⟨B.exec, B.bytes, hml, findClass_of_methodNamed B.named, hts, B.returns, B.notSynchronized, hK, fun q h => Or.inr h, rfl, hN⟩ rfl rfl rfl (name_of_methodNamed B.named B.method).1 ?_ s.heap [] _ hP0 hD0.self va_S.rf (lL_entry hcat hlen)
  intro ce sl pc lv ws' is ik ic tx u hE hs hd hp he hlv h1 h2 H locs ls hP hD hS hl
  subst he
  obtain ⟨sa, hsa⟩ := hXV.1 _ hs
  obtain ⟨k1, k2, k3, k4, k5, k6⟩ := hE
  have hat : ∀ w ∈ vx_atS RX5 ic E nmX, w.before av.toArray s = true := by
    intro w hw
    have h3 := k3 w hw
    have h5 := k5 w hw
    by_cases hg : goodWord w = true
    · exact hts w (gw_of h3 hg)
    · have hx : xO w = true := by
        cases hx : xO w
        · rw [hx] at h5
          simp at h5
          exact absurd h5 hg
        · rfl
      cases w <;> first | (simp [xO] at hx; done) | exact va_Nw.use rfl (hN _ (List.mem_filter.mpr ⟨h3, rfl⟩)) | exact va_Nw.use rfl (hXV.2.1 _ (List.mem_filter.mpr ⟨h3, rfl⟩))
  have hend : ∀ t : State, s.vm.Alike t.vm → H.size ≤ t.heap.size → (∀ q : Nat, q < H.size → t.heap[q]? = H[q]?) → vx_X px (fun E' u t => E' = E ∧ wJ D (va_A ws.flatten s.heap.size) (w1 u) t) (va_A ws.flatten s.heap.size) E s t := by
    intro t _ hz hk
    refine ⟨u, hp, ⟨rfl, vaP_mem.mpr fun q hq => (vaP_mem.mp hP q hq).kept (hk q.1 (vaP_mem.mp hP q hq).lt), hD⟩, Nat.le_trans hS.1 hz, fun q h3 h4 => ?_⟩
    rw [hk q (Nat.lt_of_lt_of_le h3 hS.1)]
    exact hS.2.1 q h3 h4
  obtain ⟨d0, d3, hd⟩ := hd
  rcases hd with ⟨d4, d6, d9⟩ | ⟨d4, d6, d9⟩
  · exact vx_throwS B.exec B.bytes hfl (own := RX5) (names := nmX) hown k6 nmX_fit (hts _ (gw_of k1 rfl)) (hts _ k2) hsa hat k4 hXZ.1 hXZ.2 hS (hl.1.trans (hlv.trans hml.symm)) d0 d3 d4 d6 d9 (fun x hx => (hno x hx).elim) hfr.1 hfr.2 h1 h2 B.notSynchronized hend hS.2.2 h1 h2
  · exact vx_throwSW B.exec B.bytes hfl (own := RX5) (names := nmX) hown k6 nmX_fit (hts _ (gw_of k1 rfl)) (hts _ k2) hsa hat k4 hXZ.1 hXZ.2 hS (hl.1.trans (hlv.trans hml.symm)) d0 d3 d4 d6 d9 (fun x hx => (hno x hx).elim) hfr.1 hfr.2 h1 h2 B.notSynchronized hend hS.2.2 h1 h2
/-- a wrapper: it catches all that its callee throws -/
def MW {U : Type} (l : Launch) (y : MethodName) (c : ByteArray) (mL : Nat) (rt : Option FieldType) (hh : List (Nat × Nat × Nat × Nat)) (rm : Room) (D : va_G) (cA : Nat → ClassId) (av : List Value) (ws : List va_W) (post : Int → U → Prop) (w1 : U → List va_W) : Prop :=
  ∀ sz : Nat, vx_Met l y (.codeWith y c mL rt hh :: GW) rm (pcX D cA av ws sz) (va_Qi (fun (r : Int32) (u : U) => ∃ x : Int, r = iI x ∧ post x u) (fun u t => wJ D (va_A ws.flatten sz) (w1 u) t) (va_A ws.flatten sz)) (vx_X (fun _ : Unit => False) (fun _ _ _ => True) (va_A ws.flatten sz)) rm.cells rm.slots (va_A ws.flatten sz)
def WX (K : KT) : Prop := XV (ks K) ∧ XZ (kA K) (ks K) (ks K).heap
theorem m_startW {U : Type} {l : Launch} {y : MethodName} {c : ByteArray} {mL : Nat} {rt : Option FieldType} {hh : List (Nat × Nat × Nat × Nat)} {rm : Room} {D : va_G} {cA : Nat → ClassId} {av : List Value} {ws : List va_W} {post : Int → U → Prop} {w1 : U → List va_W} (hy : plainName y.cls = true) (hrt : rt = some .int) (hcat : ∀ v ∈ av, v.category = 1) (hlen : av.length ≤ mL)
    (body : ∀ K : KT, Cx K c mL y.cls rt rm → kl K = l → kD K = D → kC K = cA → WX K ∧ (kc K).exceptionTable.toList = tableOf hh → RI K c rm post w1 → J K 0 0 ws (av.map some ++ List.replicate (mL - av.length) none) 0 []) : MW l y c mL rt hh rm D cA av ws post w1 := by
  intro sz
  refine vx_ofWH (cc := c) (maxL := mL) (ret := rt) (hh := hh) hy rfl ?_
  intro p e s m args below meth cd s₁ B hml hv
  obtain ⟨rfl, hsz, hP0, hK, hN, hD0, hXV, hXZ⟩ := hv
  have hall := atoms_spec (ws := .codeWith y c mL rt hh :: GW) B.pre
  have hts : ∀ w ∈ GW, w.before av.toArray s = true := fun w hw => hall w (List.mem_cons_of_mem _ hw)
  have htab := vx_table (x := y) B (hall _ List.mem_cons_self)
  subst hsz
  rw [lg_entry_eq]
  refine body (p, l, e, rm, s, m, av.toArray, below, meth, cd, va_A ws.flatten s.heap.size, D, cA, vx_MQ below (va_Qi (fun (r : Int32) (u : U) => ∃ x : Int, r = iI x ∧ post x u) (fun u t => wJ D (va_A ws.flatten s.heap.size) (w1 u) t) (va_A ws.flatten s.heap.size)) (vx_X (fun _ : Unit => False) (fun _ _ _ => True) (va_A ws.flatten s.heap.size)) av.toArray s rm.cells rm.slots (va_A ws.flatten s.heap.size)) ⟨B.exec, B.bytes, hml, findClass_of_methodNamed B.named, hts, B.returns, B.notSynchronized, hK, fun q h => Or.inr h, rfl, hN⟩ rfl rfl rfl ⟨⟨hXV, hXZ⟩, htab⟩ ?_ s.heap [] _ hP0 hD0.self va_S.rf (lL_entry hcat hlen)
  intro ce sl pc lv ws' x u hd hp he h1 h2 H locs ls hP hD hS hl
  subst he
  refine W.widen h1 h2 ?_
  refine vx_ret ?_
  exact W.iret B.exec B.bytes (B.returns.trans hrt) (fun t ht hW => ⟨⟨iI x, u, rfl, ⟨x, rfl, hp⟩, by rw [ht]; exact hP, hD⟩, hS.F ht⟩) hS.2.2 hd B.notSynchronized
theorem wx_callee {K : KT} (XK : WX K) {wc : va_W} {H : Heap} {locs : List Loc} {U : State} (hF : ∀ q, va_A wc H.size q → kA K q) (hS : va_S (kA K) (ks K).heap H locs) (hU : U.heap = H) (hW : (ks K).WarmedH U.vm) : XV U ∧ XZ (va_A wc H.size) U U.heap := by
  refine ⟨XV.warm hW XK.1, ?_⟩
  rw [hU]
  exact XZ.moved hW.alike (XZ.narrow (XZ.kept XK.2 hS.2.1) hF)
theorem ex_A : eA ∈ exL := by decide +kernel
theorem ex_B : eB ∈ exL := by decide +kernel
theorem ex_C : eC ∈ exL := by decide +kernel
theorem lo_ast {q n : Nat} {c : ClassId} {f g : Int → Int} : ([(q, lJ c n f)] : va_W).set 0 (q, lJ c n g) = [(q, lJ c n g)] := rfl
section
variable {K : KT} {cc : ByteArray} {nL : Nat} {own : String} {ret : Option FieldType} {rm : Room} {ce sl pc : Nat} {lv : List (Option Value)} {sk : List Value}
theorem j_throwV {U : Type} (C : Cx K cc nL own ret rm) {hh : List (Nat × Nat × Nat × Nat)} (XK : WX K ∧ (kc K).exceptionTable.toList = tableOf hh) {y : MethodName} {c2 : ByteArray} {mL2 index b : Nat} {rt2 : Option FieldType} {rm2 : Room} {As : List Value} {wc wr : List va_W} {E : String} {px : U → Prop} {w1 : U → List va_W} (hM : MX (kl K) y c2 mL2 rt2 rm2 (kD K) (kC K) (.ref b :: As) wc E px w1) {Cn : String} {T : u_T} {N jb ci : Nat} {fs : List Value} (n : Nat) (nf : y.cls = Cn ∧ y.cls ≠ "java/lang/invoke/MethodHandle" ∧ y.cls ≠ "java/lang/invoke/VarHandle" ∧ (parseMethodDescriptor y.desc).map (fun d => d.parameters.length) = some n) (hr : wc.flatten[jb]? = some (b, .inr (ci, fs))) (hc : vwCl[ci]? = some (Cn, T, N)) (hL : Cond.methodLink own index y ∈ GW) (hI : Cond.instanceMethod y ∈ GW) (hSe : Cond.selects Cn y y ∈ GW) (hIn : Cond.initialized Cn ∈ GW) (hCd : Cond.code y c2 mL2 rt2 ∈ GW) (hn : As.length = n) (hlv : lv.length = nL)
    (hR0 : rm2.frames + 1 ≤ rm.frames ∧ 8 + (mL2 + 11) + rm2.locals ≤ rm.locals) (hd : decode cc pc = .ok (.invokevirtual index, 3)) (hsk : (sk.map fun v => v.category).sum ≤ 8) (hs0 : ce + rm2.cells ≤ rm.cells ∧ sl + rm2.slots ≤ rm.slots)
    (pre : List ExceptionTableEntry) (x : ExceptionTableEntry) (suf : List ExceptionTableEntry) (hsplit : tableOf hh = pre ++ x :: suf) (hpass : ∀ z ∈ pre, z.catchType ≠ 0 ∧ ∃ nm : String, Cond.classLink own z.catchType nm ∈ GW ∧ nm ∈ exL ∧ E ≠ nm) (hE : E ∈ exL) (hx : covers x pc = true) (h0 : x.catchType ≠ 0) (hlink : Cond.classLink own x.catchType E ∈ GW) (hcast : Cond.castable E E ∈ lw_tbl) {hpc : Nat} (hhp : x.handlerPc = hpc)
    (kk : ∀ (u : U) (q9 : Nat), px u → J K (ce + rm2.cells) (sl + rm2.slots) (w1 u ++ wr) lv hpc [.ref q9]) : J K ce sl (wc ++ wr) lv pc (As.reverse ++ .ref b :: sk) := fun H locs ls hP hD hS hl => by
  have hkR : kR K = rm := C.2.2.2.2.2.2.2.2.2.1
  have hR : rm2.frames + 1 ≤ (kR K).frames ∧ 8 + (mL2 + 11) + rm2.locals ≤ (kR K).locals := by rw [hkR]; exact hR0
  have hs : ce + rm2.cells ≤ (kR K).cells ∧ sl + rm2.slots ≤ (kR K).slots := by rw [hkR]; exact hs0
  rw [List.flatten_append] at hP hD
  have hPc := vaP_l hP
  have hDc := vaD_l hD
  have hF := kF_of C hDc hS
  refine vx_calli (vx_runV (As := As) (rest := sk) ⟨C.1, C.2.1, C.2.2.1, C.2.2.2.1, C.2.2.2.2.1⟩ (hM H.size) (cwV n C.2.2.2.2.1 (gU_V hL hI hSe hIn hCd) rfl rfl rfl nf hR) ⟨pcX_blind, va_recv C.2.2.2.2.2.2.2.1 hPc hc hr, fun U hU hW => ⟨rfl, by rw [hU], by rw [hU]; exact hPc, va_K.moved hW.alike C.2.2.2.2.2.2.2.1, NW.warm hW C.2.2.2.2.2.2.2.2.2.2, hDc.weaken (fun _ _ _ _ => trivial), wx_callee XK.1 hF hS hU hW⟩⟩ rfl hn (hl.1.trans hlv) rfl (lv_room hsk) hd hs) hS (fun q _ h => hF q h) hF (fun q _ h => hF q h) (fun E' ce9 q9 u t H1 locs1 ht hvm hp hB hz1 hk1 hS1 hcell hcv hcl => ?_) (fun r u t H1 locs1 ht hvm hw hB hz1 hk1 hS1 => ?_)
  · obtain ⟨rfl, hP1, hD1⟩ := hB
    rw [ht] at hP1
    obtain ⟨hP2, hD2⟩ := wj_join hP hD hk1 hF hP1 hD1
    rw [← List.flatten_append] at hP2 hD2
    exact vx_catch (own := own) (name := E') C.2.2.2.1 pre x suf (XK.2.trans hsplit) (fun z hz => Or.inr ⟨(hpass z hz).1, by
      obtain ⟨nm, q1, q2, q3⟩ := (hpass z hz).2
      exact ⟨nm, C.2.2.2.2.1 _ q1, XK.1.1.2.2 E' hE nm q2 q3⟩⟩) hx h0 (C.2.2.2.2.1 _ hlink) (va_Nw.use rfl (C.2.2.2.2.2.2.2.2.2.2 _ (List.mem_filter.mpr ⟨hcast, rfl⟩))) hcell hcv hcl (by rw [hhp]; exact kk u q9 hp H1 locs1 ls hP2 hD2 hS1 hl)
  · obtain ⟨x, -, hx⟩ := (⟨0, rfl, hw⟩ : ∃ x : Int, x = 0 ∧ False)
    exact hx.elim
theorem gU_codeW {y : MethodName} {c : ByteArray} {mL : Nat} {rt : Option FieldType} {hh : List (Nat × Nat × Nat × Nat)} (h : Cond.codeWith y c mL rt hh ∈ GW) : GoodIn GW (.codeWith y c mL rt hh :: GW) := by
  intro w hw
  rcases List.mem_cons.mp hw with rfl | hw
  · exact ⟨h, good_of_word (List.mem_filter.mp h).2⟩
  · exact ⟨hw, good_of_word (List.mem_filter.mp hw).2⟩
theorem j_callW {U : Type} (C : Cx K cc nL own ret rm) (XK : WX K) {y : MethodName} {c2 : ByteArray} {mL2 index : Nat} {rt2 : Option FieldType} {hh : List (Nat × Nat × Nat × Nat)} {rm2 : Room} {As : List Value} {wc wr : List va_W} {post : Int → U → Prop} {w1 : U → List va_W} (hM : MW (kl K) y c2 mL2 rt2 hh rm2 (kD K) (kC K) As wc post w1) (n : Nat) (nf : y.cls ≠ "java/lang/invoke/MethodHandle" ∧ y.cls ≠ "java/lang/invoke/VarHandle" ∧ (parseMethodDescriptor y.desc).map (fun d => d.parameters.length) = some n) (hL : Cond.methodLink own index y ∈ GW) (hI : Cond.static y ∈ GW) (hIn : Cond.initialized y.cls ∈ GW) (hCd : Cond.codeWith y c2 mL2 rt2 hh ∈ GW) (hn : As.length = n) (hlv : lv.length = nL)
    (hR0 : rm2.frames + 1 ≤ rm.frames ∧ 8 + (mL2 + 11) + rm2.locals ≤ rm.locals) (hd : decode cc pc = .ok (.invokestatic index, 3)) (hsk : (sk.map fun v => v.category).sum ≤ 8) (hs0 : ce + rm2.cells ≤ rm.cells ∧ sl + rm2.slots ≤ rm.slots)
    (kk : ∀ (x : Int) (u : U), post x u → J K (ce + rm2.cells) (sl + rm2.slots) (w1 u ++ wr) lv (pc + 3) (.int (iI x) :: sk)) : J K ce sl (wc ++ wr) lv pc (As.reverse ++ sk) := fun H locs ls hP hD hS hl => by
  have hkR : kR K = rm := C.2.2.2.2.2.2.2.2.2.1
  have hR : rm2.frames + 1 ≤ (kR K).frames ∧ 8 + (mL2 + 11) + rm2.locals ≤ (kR K).locals := by rw [hkR]; exact hR0
  have hs : ce + rm2.cells ≤ (kR K).cells ∧ sl + rm2.slots ≤ (kR K).slots := by rw [hkR]; exact hs0
  rw [List.flatten_append] at hP hD
  have hPc := vaP_l hP
  have hDc := vaD_l hD
  have hF := kF_of C hDc hS
  refine vx_calli (vx_runSX (As := As) (rest := sk) ⟨C.1, C.2.1, C.2.2.1, C.2.2.2.1, C.2.2.2.2.1⟩ (hM H.size) (vx_cwSW n C.2.2.2.2.1 (gU_app (gU_list (List.forall_mem_cons.mpr ⟨hL, List.forall_mem_cons.mpr ⟨hI, List.forall_mem_cons.mpr ⟨hIn, fun _ h => absurd h List.not_mem_nil⟩⟩⟩)) (gU_codeW hCd)) rfl rfl rfl nf hR) ⟨pcX_blind, fun U hU hW => ⟨rfl, by rw [hU], by rw [hU]; exact hPc, va_K.moved hW.alike C.2.2.2.2.2.2.2.1, NW.warm hW C.2.2.2.2.2.2.2.2.2.2, hDc.weaken (fun _ _ _ _ => trivial), wx_callee XK hF hS hU hW⟩⟩ rfl hn (hl.1.trans hlv) rfl (lv_room hsk) hd hs) hS (fun q _ h => hF q h) hF (fun q _ h => hF q h) (fun E' ce9 q9 u t H1 locs1 ht hvm hp hB hz1 hk1 hS1 hcell hcv hcl => hp.elim) (fun r u t H1 locs1 ht hvm hw hB hz1 hk1 hS1 => ?_)
  obtain ⟨x, rfl, hx⟩ := hw
  obtain ⟨hP1, hD1⟩ := hB
  rw [ht] at hP1
  obtain ⟨hP2, hD2⟩ := wj_join hP hD hk1 hF hP1 hD1
  rw [← List.flatten_append] at hP2 hD2
  exact kk x u hx H1 locs1 ls hP2 hD2 hS1 hl
end

