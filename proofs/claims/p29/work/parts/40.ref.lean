/-! the J rows of arrays of references, and of null -/
def rJ (c : ClassId) (n : Nat) (V : Nat → Option Nat) : va_E := .inl (c, n, .inr (.inr (.inr (.inr V))))
section JRF
variable {K : KT} {cc : ByteArray} {nL : Nat} {own : String} {ret : Option FieldType} {rm : Room} {ce sl pc : Nat} {ws : List va_W} {lv : List (Option Value)} {sk : List Value}
theorem j_aald (C : Cx K cc nL own ret rm) (i j : Nat) {B : va_W} {a n : Nat} {V : Nat → Option Nat} {x : Int} (hB : ws[i]? = some B) (hj : B[j]? = some (a, rJ (kC K 2) n V)) (hd : decode cc pc = .ok (.aaload, 1)) (hn : n < 2147483648) (h0 : 0 ≤ x) (h1 : x < (n : Int))
    (kk : J K ce sl ws lv (pc + 1) (va_rf (V x.toNat) :: sk)) : J K ce sl ws lv pc (.int (iI x) :: .ref a :: sk) := fun H locs ls hP hD hS hl => by
  obtain ⟨q0, hq⟩ := fl_at hB hj
  refine va_aldq C.1 C.2.1 C.2.2.2.2.2.2.2.1 hP q0 2 hq rfl (vp_in_iI h0 h1 hn) hd ?_
  rw [show (iI x).toNatClampNeg = x.toNat by have := iI_clamp h0 (show x < 2147483648 by omega); omega]
  exact kk H locs ls hP hD hS hl
theorem j_aastG (C : Cx K cc nL own ret rm) (pre : List va_W) (j i2 j2 : Nat) {post : List va_W} {B B' B2 : va_W} {a n v : Nat} {V : Nat → Option Nat} {x : Int} {vs : List Value} (hj : B[j]? = some (a, rJ (kC K 2) n V)) (hB' : B.set j (a, rJ (kC K 2) n (va_up V x.toNat (some v))) = B') (h2 : (pre ++ B :: post)[i2]? = some B2) (hj2 : B2[j2]? = some (v, .inr (0, vs))) (hd : decode cc pc = .ok (.aastore, 1)) (hn : n < 2147483648) (h0 : 0 ≤ x) (h1 : x < (n : Int))
    (kk : J K ce sl (pre ++ B' :: post) lv (pc + 1) sk) : J K ce sl (pre ++ B :: post) lv pc (.ref v :: .int (iI x) :: .ref a :: sk) := fun H locs ls hP hD hS hl => by
  obtain ⟨q2, hq2⟩ := fl_at h2 hj2
  refine va_astq C.1 C.2.1 C.2.2.2.2.2.2.2.1 hP hD hS (pre.flatten.length + j) 2 q2 0 (fl_pre hj) rfl hq2 rfl (vp_in_iI h0 h1 hn) hd (fun H1 locs1 hP1 hD1 hS1 => ?_)
  rw [show (iI x).toNatClampNeg = x.toNat by have := iI_clamp h0 (show x < 2147483648 by omega); omega] at hP1 hD1
  rw [fl_set hj] at hP1 hD1
  have e := hB'
  unfold rJ at e
  rw [e] at hP1 hD1
  exact kk H1 locs1 ls hP1 hD1 hS1 hl
theorem j_aast_p0 (C : Cx K cc nL own ret rm) (j i2 j2 : Nat) {post : List va_W} {B B' B2 : va_W} {a n v : Nat} {V : Nat → Option Nat} {x : Int} {vs : List Value} (hj : B[j]? = some (a, rJ (kC K 2) n V)) (hB' : B.set j (a, rJ (kC K 2) n (va_up V x.toNat (some v))) = B') (h2 : (B :: post)[i2]? = some B2) (hj2 : B2[j2]? = some (v, .inr (0, vs))) (hd : decode cc pc = .ok (.aastore, 1)) (hn : n < 2147483648) (h0 : 0 ≤ x) (h1 : x < (n : Int)) (kk : J K ce sl (B' :: post) lv (pc + 1) sk) : J K ce sl (B :: post) lv pc (.ref v :: .int (iI x) :: .ref a :: sk) := j_aastG C [] j i2 j2 hj hB' h2 hj2 hd hn h0 h1 kk
theorem j_aast_p1 (C : Cx K cc nL own ret rm) (j i2 j2 : Nat) {B0 : va_W} {post : List va_W} {B B' B2 : va_W} {a n v : Nat} {V : Nat → Option Nat} {x : Int} {vs : List Value} (hj : B[j]? = some (a, rJ (kC K 2) n V)) (hB' : B.set j (a, rJ (kC K 2) n (va_up V x.toNat (some v))) = B') (h2 : (B0 :: B :: post)[i2]? = some B2) (hj2 : B2[j2]? = some (v, .inr (0, vs))) (hd : decode cc pc = .ok (.aastore, 1)) (hn : n < 2147483648) (h0 : 0 ≤ x) (h1 : x < (n : Int)) (kk : J K ce sl (B0 :: B' :: post) lv (pc + 1) sk) : J K ce sl (B0 :: B :: post) lv pc (.ref v :: .int (iI x) :: .ref a :: sk) := j_aastG C [B0] j i2 j2 hj hB' h2 hj2 hd hn h0 h1 kk
theorem j_aast_p2 (C : Cx K cc nL own ret rm) (j i2 j2 : Nat) {B0 B1 : va_W} {post : List va_W} {B B' B2 : va_W} {a n v : Nat} {V : Nat → Option Nat} {x : Int} {vs : List Value} (hj : B[j]? = some (a, rJ (kC K 2) n V)) (hB' : B.set j (a, rJ (kC K 2) n (va_up V x.toNat (some v))) = B') (h2 : (B0 :: B1 :: B :: post)[i2]? = some B2) (hj2 : B2[j2]? = some (v, .inr (0, vs))) (hd : decode cc pc = .ok (.aastore, 1)) (hn : n < 2147483648) (h0 : 0 ≤ x) (h1 : x < (n : Int)) (kk : J K ce sl (B0 :: B1 :: B' :: post) lv (pc + 1) sk) : J K ce sl (B0 :: B1 :: B :: post) lv pc (.ref v :: .int (iI x) :: .ref a :: sk) := j_aastG C [B0, B1] j i2 j2 hj hB' h2 hj2 hd hn h0 h1 kk
theorem j_aast_p3 (C : Cx K cc nL own ret rm) (j i2 j2 : Nat) {B0 B1 B2 : va_W} {post : List va_W} {B B' B2 : va_W} {a n v : Nat} {V : Nat → Option Nat} {x : Int} {vs : List Value} (hj : B[j]? = some (a, rJ (kC K 2) n V)) (hB' : B.set j (a, rJ (kC K 2) n (va_up V x.toNat (some v))) = B') (h2 : (B0 :: B1 :: B2 :: B :: post)[i2]? = some B2) (hj2 : B2[j2]? = some (v, .inr (0, vs))) (hd : decode cc pc = .ok (.aastore, 1)) (hn : n < 2147483648) (h0 : 0 ≤ x) (h1 : x < (n : Int)) (kk : J K ce sl (B0 :: B1 :: B2 :: B' :: post) lv (pc + 1) sk) : J K ce sl (B0 :: B1 :: B2 :: B :: post) lv pc (.ref v :: .int (iI x) :: .ref a :: sk) := j_aastG C [B0, B1, B2] j i2 j2 hj hB' h2 hj2 hd hn h0 h1 kk
theorem j_aaldR (C : Cx K cc nL own ret rm) (i j : Nat) {B : va_W} {a n q : Nat} {V : Nat → Option Nat} {x : Int} (hB : ws[i]? = some B) (hj : B[j]? = some (a, rJ (kC K 2) n V)) (hd : decode cc pc = .ok (.aaload, 1)) (hn : n < 2147483648) (h0 : 0 ≤ x) (h1 : x < (n : Int)) (hv : V x.toNat = some q)
    (kk : J K ce sl ws lv (pc + 1) (.ref q :: sk)) : J K ce sl ws lv pc (.int (iI x) :: .ref a :: sk) := j_aald C i j hB hj hd hn h0 h1 (by rw [hv]; exact kk)
theorem j_aaldN (C : Cx K cc nL own ret rm) (i j : Nat) {B : va_W} {a n : Nat} {V : Nat → Option Nat} {x : Int} (hB : ws[i]? = some B) (hj : B[j]? = some (a, rJ (kC K 2) n V)) (hd : decode cc pc = .ok (.aaload, 1)) (hn : n < 2147483648) (h0 : 0 ≤ x) (h1 : x < (n : Int)) (hv : V x.toNat = none)
    (kk : J K ce sl ws lv (pc + 1) (.null :: sk)) : J K ce sl ws lv pc (.int (iI x) :: .ref a :: sk) := j_aald C i j hB hj hd hn h0 h1 (by rw [hv]; exact kk)
theorem j_null (C : Cx K cc nL own ret rm) (hd : decode cc pc = .ok (.aconst_null, 1)) (k : J K ce sl ws lv (pc + 1) (.null :: sk)) : J K ce sl ws lv pc sk := fun H locs ls hP hD hS hl => lv_null C.1 C.2.1 hd (k H locs ls hP hD hS hl)
theorem j_ifnn (C : Cx K cc nL own ret rm) {x : Nat} {off : Int} {tgt : Nat} (hd : decode cc pc = .ok (.ifnonnull off, 3)) (ht : (pc : Int) + off = (tgt : Int)) (k : J K ce sl ws lv tgt sk) : J K ce sl ws lv pc (.ref x :: sk) := fun H locs ls hP hD hS hl => lv_ifnonnull C.1 C.2.1 hd ht (k H locs ls hP hD hS hl)
theorem j_ifnnN (C : Cx K cc nL own ret rm) {off : Int} (hd : decode cc pc = .ok (.ifnonnull off, 3)) (k : J K ce sl ws lv (pc + 3) sk) : J K ce sl ws lv pc (.null :: sk) := fun H locs ls hP hD hS hl => lv_ifnonnullN C.1 C.2.1 hd (k H locs ls hP hD hS hl)
theorem j_aload_nN (C : Cx K cc nL own ret rm) {i : _root_.Fin 4} (hd : decode cc pc = .ok (.aload_n i, 1)) (hv : lv[(i : Nat)]? = some (some .null)) (k : J K ce sl ws lv (pc + 1) (.null :: sk)) : J K ce sl ws lv pc sk := fun H locs ls hP hD hS hl => lv_aload_nN C.1 C.2.1 hd rfl (hl.get hv) (k H locs ls hP hD hS hl)
theorem j_astore_nNG (C : Cx K cc nL own ret rm) {i : _root_.Fin 4} (hd : decode cc pc = .ok (.astore_n i, 1)) (hi : (i : Nat) < lv.length) (hc : ∀ w, (i : Nat) ≠ 0 → lv[(i : Nat) - 1]? = some w → nc w = true) (k : J K ce sl ws (lv.set i (some .null)) (pc + 1) sk) : J K ce sl ws lv pc (.null :: sk) := fun H locs _ hP hD hS hl => lv_astore_nN C.1 C.2.1 hd rfl hl hi rfl (fun ls' h' => k H locs ls' hP hD hS (lL.st1 h' hc))
theorem j_astnN_1 (C : Cx K cc nL own ret rm) {v0 v1 : Option Value} {t : List (Option Value)} (hd : decode cc pc = .ok (.astore_n 1, 1)) (hc : nc v0 = true) (k : J K ce sl ws (v0::some .null::t) (pc + 1) sk) : J K ce sl ws (v0::v1::t) pc (.null :: sk) := j_astore_nNG C hd (by show 1 < t.length + 1 + 1; omega) (fun w _ h => by cases h; exact hc) k
theorem wAO : Cond.arrayOver (.object "PledgeRings$Book") ∈ nwL := List.mem_filter.mpr ⟨tm10 (List.mem_of_getElem? (i := 178) rfl), rfl⟩
theorem j_anew (C : Cx K cc nL own ret rm) {index : Nat} {n : Int} (N : Nat) (hn : n = (N : Int)) (hb : N < 1000000) (hKl : Cond.classLink own index "PledgeRings$Book" ∈ GW) (hs : ce + 1 ≤ rm.cells ∧ sl + N ≤ rm.slots) (hd : decode cc pc = .ok (.anewarray index, 3))
    (kk : ∀ q : Nat, J K (ce + 1) (sl + N) ([(q, rJ (kC K 2) N (fun _ => none))] :: ws) lv (pc + 3) (.ref q :: sk)) : J K ce sl ws lv pc (.int (iI n) :: sk) := fun H locs ls hP hD hS hl => by
  have hkR : kR K = rm := C.2.2.2.2.2.2.2.2.2.1
  have hao : va_AO "PledgeRings$Book" (ks K) := C.2.2.2.2.2.2.2.2.2.2 _ wAO
  subst hn
  refine va_newq (N' := N) C.1 C.2.1 C.2.2.2.1 (C.2.2.2.2.1 _ hKl) hao C.2.2.2.2.2.2.2.1 hP hD hS C.2.2.2.2.2.2.2.2.1 (by rw [iI_zero, iI_lt (by omega) (by omega) (by omega) (by omega)]; omega) (by have := iI_clamp (a := (N : Int)) (by omega) (by omega); omega) (by show N * 4 ≤ _; omega) (by rw [hkR]; exact hs.1) (by rw [hkR]; exact hs.2) hd (fun q cA H1 hK1 hP1 hD1 hS1 => ?_)
  have e := kC_eq C (i := 2) rfl hK1 (fun _ _ h => by obtain ⟨_, _, _, _, _, h4⟩ := h; exact h4)
  subst e
  exact kk q H1 locs ls (vaP_perm List.perm_append_comm hP1) (vaD_perm List.perm_append_comm hD1) hS1 hl
end JRF
/-- what the array of saved books holds -/
def svV (a0 a1 a2 a3 : Option Nat) : Nat → Option Nat := fun j => match j with | 0 => a0 | 1 => a1 | 2 => a2 | 3 => a3 | _ => none
theorem svV_up0 {a0 a1 a2 a3 w : Option Nat} {x : Nat} (h : x = 0) : va_up (svV a0 a1 a2 a3) x w = svV w a1 a2 a3 := by
  subst h; funext j; unfold va_up
  match j with | 0 => rfl | 1 => rfl | 2 => rfl | 3 => rfl | _ + 4 => rfl
theorem svV_up1 {a0 a1 a2 a3 w : Option Nat} {x : Nat} (h : x = 1) : va_up (svV a0 a1 a2 a3) x w = svV a0 w a2 a3 := by
  subst h; funext j; unfold va_up
  match j with | 0 => rfl | 1 => rfl | 2 => rfl | 3 => rfl | _ + 4 => rfl
theorem svV_up2 {a0 a1 a2 a3 w : Option Nat} {x : Nat} (h : x = 2) : va_up (svV a0 a1 a2 a3) x w = svV a0 a1 w a3 := by
  subst h; funext j; unfold va_up
  match j with | 0 => rfl | 1 => rfl | 2 => rfl | 3 => rfl | _ + 4 => rfl
theorem svV_up3 {a0 a1 a2 a3 w : Option Nat} {x : Nat} (h : x = 3) : va_up (svV a0 a1 a2 a3) x w = svV a0 a1 a2 w := by
  subst h; funext j; unfold va_up
  match j with | 0 => rfl | 1 => rfl | 2 => rfl | 3 => rfl | _ + 4 => rfl
