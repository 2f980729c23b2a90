/-! the law: rows of its own -/
def gX (xs : Nat → Int32) (x : Int) : Int := (xs x.toNat).toInt
theorem gX_bd (xs : Nat → Int32) (x : Int) : -2147483648 ≤ gX xs x ∧ gX xs x < 2147483648 := ⟨by have := Int32.le_toInt (xs x.toNat); unfold gX; omega, by have := Int32.toInt_lt (xs x.toNat); unfold gX; omega⟩
section
variable {K : KT} {cc : ByteArray} {nL : Nat} {own : String} {ret : Option FieldType} {rm : Room} {ce sl pc : Nat} {ws : List va_W} {lv : List (Option Value)} {sk : List Value}
theorem j_sld (C : Cx K cc nL own ret rm) {b0 Ls : Nat} {xs : Nat → Int32} (hX : va_X b0 Ls xs (ks K) (ks K).heap) (hbl : b0 < (ks K).heap.size) (hbA : ¬ kA K b0) (hL : Ls ≤ 2560) {x : Int} (hd : decode cc pc = .ok (.iaload, 1)) (h0 : 0 ≤ x) (h1 : x < (Ls : Int)) (k : J K ce sl ws lv (pc + 1) (.int (iI (gX xs x)) :: sk)) : J K ce sl ws lv pc (.int (iI x) :: .ref b0 :: sk) := fun H locs ls hP hD hS hl => by
  refine va_sld C.1 C.2.1 hX hbl hbA hS (vp_in_iI h0 h1 (by omega)) hd ?_
  have e := iI_clamp h0 (show x < 2147483648 by omega)
  rw [show (iI x).toNatClampNeg = x.toNat by omega, show xs x.toNat = iI (gX xs x) from (Int32.ofInt_toInt _).symm]
  exact k H locs ls hP hD hS hl
theorem ofNat_iI (n : Nat) : Int32.ofNat n = iI (n : Int) := by
  first
  | rfl
  | exact (Int32.ofInt_natCast n).symm
  | simp [iI]
theorem j_slen (C : Cx K cc nL own ret rm) {b0 Ls : Nat} {xs : Nat → Int32} (hX : va_X b0 Ls xs (ks K) (ks K).heap) (hbl : b0 < (ks K).heap.size) (hbA : ¬ kA K b0) (hd : decode cc pc = .ok (.arraylength, 1)) (k : J K ce sl ws lv (pc + 1) (.int (iI (Ls : Int)) :: sk)) : J K ce sl ws lv pc (.ref b0 :: sk) := fun H locs ls hP hD hS hl => by
  refine va_slen C.1 C.2.1 hX hbl hbA hS hd ?_
  rw [ofNat_iI]
  exact k H locs ls hP hD hS hl
theorem lv_lcmpE {p : Program} {l : Launch} {e : Env} {R : Room} {s : State} {m : MethodId} {args : Array Value} {below : List Frame} {meth : Method} {c : Code} {H : Heap} {locs : List Loc} {cells slots : Nat} {Q : State → Prop} {ls : Array Slot} {rest : List Value} (hexec : p.tables.exec = Jvm.exec) (hb : c.code = cc) {x : Int64} (hdg : decode cc pc = .ok (.lcmp, 1))
    (k : W p l e R s m args below meth c H locs cells slots Q (F0 m (pc + 1) ls (.int 0 :: rest))) : W p l e R s m args below meth c H locs cells slots Q (F0 m pc ls (.long x :: .long x :: rest)) := by
  intro T hT X
  obtain ⟨t, a, b⟩ := k T hT X
  refine ⟨t, ?_, b⟩
  jvm_step X.here [X.here.top, hexec, hb, hdg]
  first | exact a | (simp at a ⊢; exact a) | (simp; exact a)
theorem j_lcmpE (C : Cx K cc nL own ret rm) {x y : Int} (hd : decode cc pc = .ok (.lcmp, 1)) (h : x = y) (k : J K ce sl ws lv (pc + 1) (.int (iI 0) :: sk)) : J K ce sl ws lv pc (.long (lI y) :: .long (lI x) :: sk) := fun H locs ls hP hD hS hl => by
  subst h
  refine lv_lcmpE C.1 C.2.1 hd ?_
  rw [iI_zero]
  exact k H locs ls hP hD hS hl
theorem j_icmpE (C : Cx K cc nL own ret rm) {x y : Int} {off : Int} {tgt : Nat} (hd : decode cc pc = .ok (.if_icmp .eq off, 3)) (ht : (pc : Int) + off = (tgt : Int)) (h : x = y) (kt : J K ce sl ws lv tgt sk) : J K ce sl ws lv pc (.int (iI y) :: .int (iI x) :: sk) := fun H locs ls hP hD hS hl => by
  subst h
  exact lv_icmp_eq C.1 C.2.1 hd ht (fun _ => kt H locs ls hP hD hS hl) (fun q => absurd rfl q)
end

