/-! p29: the law: its steps -/
def LY (k c : Int) (L : LT) (S : Int → Int) : Prop := Good S ∧ HCL c L ∧ (3 ≤ S 0 ∧ S 0 ≤ 6) ∧ (7 ≤ S 1 ∧ S 1 ≤ 7 + k) ∧ (0 ≤ S 4 ∧ S 4 ≤ k)
def KK (K : KT) (b0 : Nat) (A : AT) (k : Int) (ce sl : Nat) : Prop := ∀ (c : Int) (L : LT) (S : Int → Int) (u : SC), LY (k + 1) c L S → J K (ce + 9) (sl + 333) [wB (kC K) A c L S u] [some (.ref b0), some (.ref A.1), some (.int (iI 1)), some (.int (iI k)), none, none, none, none, none, none, none, none, none, none, none, none, none, none, none] 651 []
theorem pick {y n : Int} (hy : 0 ≤ y) (h0 : 3 ≤ n) (h1 : n ≤ 6) : (0 ≤ y % n ∧ y % n < n) ∧ (0 ≤ y / 8 % (n - 1) ∧ y / 8 % (n - 1) < n - 1) ∧ (0 ≤ (y % n + 1 + y / 8 % (n - 1)) % n ∧ (y % n + 1 + y / 8 % (n - 1)) % n < n) ∧ y % n ≠ (y % n + 1 + y / 8 % (n - 1)) % n := by
  rcases (show n = 3 ∨ n = 4 ∨ n = 5 ∨ n = 6 by omega) with rfl | rfl | rfl | rfl <;> omega
theorem payP_am {S : Int → Int} {i x : Int} (hi : 0 ≤ i) : am (payP S i x) i = am S i - x := by
  have := ((Ch_pay (S := S) (x := x) hi).2.2.2.2 i hi).2.2.2.2.2.1
  rw [if_pos rfl] at this
  omega
theorem pay_net {S : Int → Int} {i x : Int} (hI : Inv S) (h0 : 0 ≤ i) (h1 : i < S 1) : netS (payP S i x) (fr S i) = netS S (fr S i) + x := by
  have h := Ch_net (Ch_pay (S := S) (x := x) h0) h0 h1 (fr S i)
  have f := hI.2.2 i h0 h1
  rw [if_pos rfl, if_neg (fun e => f.2.2.1 e.symm)] at h
  omega
section
variable {K : KT} {cc : ByteArray} {nL : Nat} {own : String} {ret : Option FieldType} {rm : Room} {ce sl pc : Nat} {ws : List va_W} {sk : List Value}
theorem j_ist_14 (C : Cx K cc nL own ret rm) {x : Int32} {v0 v1 v2 v3 v4 v5 v6 v7 v8 v9 v10 v11 v12 v13 v14 : Option Value} {t : List (Option Value)} (hd : decode cc pc = .ok (.istore 14, 2)) (hc : nc v13 = true) (k : J K ce sl ws (v0::v1::v2::v3::v4::v5::v6::v7::v8::v9::v10::v11::v12::v13::some (.int x)::t) (pc + 2) sk) : J K ce sl ws (v0::v1::v2::v3::v4::v5::v6::v7::v8::v9::v10::v11::v12::v13::v14::t) pc (.int x :: sk) := j_istoreG C hd (by show 14 < t.length + 1 + 1 + 1 + 1 + 1 + 1 + 1 + 1 + 1 + 1 + 1 + 1 + 1 + 1 + 1; omega) (fun w _ h => by cases h; exact hc) k
theorem j_ist_15 (C : Cx K cc nL own ret rm) {x : Int32} {v0 v1 v2 v3 v4 v5 v6 v7 v8 v9 v10 v11 v12 v13 v14 v15 : Option Value} {t : List (Option Value)} (hd : decode cc pc = .ok (.istore 15, 2)) (hc : nc v14 = true) (k : J K ce sl ws (v0::v1::v2::v3::v4::v5::v6::v7::v8::v9::v10::v11::v12::v13::v14::some (.int x)::t) (pc + 2) sk) : J K ce sl ws (v0::v1::v2::v3::v4::v5::v6::v7::v8::v9::v10::v11::v12::v13::v14::v15::t) pc (.int x :: sk) := j_istoreG C hd (by show 15 < t.length + 1 + 1 + 1 + 1 + 1 + 1 + 1 + 1 + 1 + 1 + 1 + 1 + 1 + 1 + 1 + 1; omega) (fun w _ h => by cases h; exact hc) k
theorem j_ist_16 (C : Cx K cc nL own ret rm) {x : Int32} {v0 v1 v2 v3 v4 v5 v6 v7 v8 v9 v10 v11 v12 v13 v14 v15 v16 : Option Value} {t : List (Option Value)} (hd : decode cc pc = .ok (.istore 16, 2)) (hc : nc v15 = true) (k : J K ce sl ws (v0::v1::v2::v3::v4::v5::v6::v7::v8::v9::v10::v11::v12::v13::v14::v15::some (.int x)::t) (pc + 2) sk) : J K ce sl ws (v0::v1::v2::v3::v4::v5::v6::v7::v8::v9::v10::v11::v12::v13::v14::v15::v16::t) pc (.int x :: sk) := j_istoreG C hd (by show 16 < t.length + 1 + 1 + 1 + 1 + 1 + 1 + 1 + 1 + 1 + 1 + 1 + 1 + 1 + 1 + 1 + 1 + 1; omega) (fun w _ h => by cases h; exact hc) k
theorem j_ist_17 (C : Cx K cc nL own ret rm) {x : Int32} {v0 v1 v2 v3 v4 v5 v6 v7 v8 v9 v10 v11 v12 v13 v14 v15 v16 v17 : Option Value} {t : List (Option Value)} (hd : decode cc pc = .ok (.istore 17, 2)) (hc : nc v16 = true) (k : J K ce sl ws (v0::v1::v2::v3::v4::v5::v6::v7::v8::v9::v10::v11::v12::v13::v14::v15::v16::some (.int x)::t) (pc + 2) sk) : J K ce sl ws (v0::v1::v2::v3::v4::v5::v6::v7::v8::v9::v10::v11::v12::v13::v14::v15::v16::v17::t) pc (.int x :: sk) := j_istoreG C hd (by show 17 < t.length + 1 + 1 + 1 + 1 + 1 + 1 + 1 + 1 + 1 + 1 + 1 + 1 + 1 + 1 + 1 + 1 + 1 + 1; omega) (fun w _ h => by cases h; exact hc) k
theorem j_ist_18 (C : Cx K cc nL own ret rm) {x : Int32} {v0 v1 v2 v3 v4 v5 v6 v7 v8 v9 v10 v11 v12 v13 v14 v15 v16 v17 v18 : Option Value} {t : List (Option Value)} (hd : decode cc pc = .ok (.istore 18, 2)) (hc : nc v17 = true) (k : J K ce sl ws (v0::v1::v2::v3::v4::v5::v6::v7::v8::v9::v10::v11::v12::v13::v14::v15::v16::v17::some (.int x)::t) (pc + 2) sk) : J K ce sl ws (v0::v1::v2::v3::v4::v5::v6::v7::v8::v9::v10::v11::v12::v13::v14::v15::v16::v17::v18::t) pc (.int x :: sk) := j_istoreG C hd (by show 18 < t.length + 1 + 1 + 1 + 1 + 1 + 1 + 1 + 1 + 1 + 1 + 1 + 1 + 1 + 1 + 1 + 1 + 1 + 1 + 1; omega) (fun w _ h => by cases h; exact hc) k
end
theorem pm_18_0_2_3_4_5_6_7_9_11_12_13_14_15_16 (B0 B1 B2 B3 B4 B5 B6 B7 B8 B9 B10 B11 B12 B13 B14 B15 B16 B17 : va_W) : [B0, B1, B2, B3, B4, B5, B6, B7, B8, B9, B10, B11, B12, B13, B14, B15, B16, B17].Perm ([B0, B2, B3, B4, B5, B6, B7, B9, B11, B12, B13, B14, B15, B16] ++ [B1, B8, B10, B17]) := List.Perm.trans (List.Perm.refl _) (List.Perm.trans (List.Perm.cons _ (List.perm_middle (l₁ := [B1]) (a := B2) (l₂ := [B3, B4, B5, B6, B7, B8, B9, B10, B11, B12, B13, B14, B15, B16, B17]))) (List.Perm.trans (List.Perm.cons _ (List.Perm.cons _ (List.perm_middle (l₁ := [B1]) (a := B3) (l₂ := [B4, B5, B6, B7, B8, B9, B10, B11, B12, B13, B14, B15, B16, B17])))) (List.Perm.trans (List.Perm.cons _ (List.Perm.cons _ (List.Perm.cons _ (List.perm_middle (l₁ := [B1]) (a := B4) (l₂ := [B5, B6, B7, B8, B9, B10, B11, B12, B13, B14, B15, B16, B17]))))) (List.Perm.trans (List.Perm.cons _ (List.Perm.cons _ (List.Perm.cons _ (List.Perm.cons _ (List.perm_middle (l₁ := [B1]) (a := B5) (l₂ := [B6, B7, B8, B9, B10, B11, B12, B13, B14, B15, B16, B17])))))) (List.Perm.trans (List.Perm.cons _ (List.Perm.cons _ (List.Perm.cons _ (List.Perm.cons _ (List.Perm.cons _ (List.perm_middle (l₁ := [B1]) (a := B6) (l₂ := [B7, B8, B9, B10, B11, B12, B13, B14, B15, B16, B17]))))))) (List.Perm.trans (List.Perm.cons _ (List.Perm.cons _ (List.Perm.cons _ (List.Perm.cons _ (List.Perm.cons _ (List.Perm.cons _ (List.perm_middle (l₁ := [B1]) (a := B7) (l₂ := [B8, B9, B10, B11, B12, B13, B14, B15, B16, B17])))))))) (List.Perm.trans (List.Perm.cons _ (List.Perm.cons _ (List.Perm.cons _ (List.Perm.cons _ (List.Perm.cons _ (List.Perm.cons _ (List.Perm.cons _ (List.perm_middle (l₁ := [B1, B8]) (a := B9) (l₂ := [B10, B11, B12, B13, B14, B15, B16, B17]))))))))) (List.Perm.trans (List.Perm.cons _ (List.Perm.cons _ (List.Perm.cons _ (List.Perm.cons _ (List.Perm.cons _ (List.Perm.cons _ (List.Perm.cons _ (List.Perm.cons _ (List.perm_middle (l₁ := [B1, B8, B10]) (a := B11) (l₂ := [B12, B13, B14, B15, B16, B17])))))))))) (List.Perm.trans (List.Perm.cons _ (List.Perm.cons _ (List.Perm.cons _ (List.Perm.cons _ (List.Perm.cons _ (List.Perm.cons _ (List.Perm.cons _ (List.Perm.cons _ (List.Perm.cons _ (List.perm_middle (l₁ := [B1, B8, B10]) (a := B12) (l₂ := [B13, B14, B15, B16, B17]))))))))))) (List.Perm.trans (List.Perm.cons _ (List.Perm.cons _ (List.Perm.cons _ (List.Perm.cons _ (List.Perm.cons _ (List.Perm.cons _ (List.Perm.cons _ (List.Perm.cons _ (List.Perm.cons _ (List.Perm.cons _ (List.perm_middle (l₁ := [B1, B8, B10]) (a := B13) (l₂ := [B14, B15, B16, B17])))))))))))) (List.Perm.trans (List.Perm.cons _ (List.Perm.cons _ (List.Perm.cons _ (List.Perm.cons _ (List.Perm.cons _ (List.Perm.cons _ (List.Perm.cons _ (List.Perm.cons _ (List.Perm.cons _ (List.Perm.cons _ (List.Perm.cons _ (List.perm_middle (l₁ := [B1, B8, B10]) (a := B14) (l₂ := [B15, B16, B17]))))))))))))) (List.Perm.trans (List.Perm.cons _ (List.Perm.cons _ (List.Perm.cons _ (List.Perm.cons _ (List.Perm.cons _ (List.Perm.cons _ (List.Perm.cons _ (List.Perm.cons _ (List.Perm.cons _ (List.Perm.cons _ (List.Perm.cons _ (List.Perm.cons _ (List.perm_middle (l₁ := [B1, B8, B10]) (a := B15) (l₂ := [B16, B17])))))))))))))) (List.Perm.cons _ (List.Perm.cons _ (List.Perm.cons _ (List.Perm.cons _ (List.Perm.cons _ (List.Perm.cons _ (List.Perm.cons _ (List.Perm.cons _ (List.Perm.cons _ (List.Perm.cons _ (List.Perm.cons _ (List.Perm.cons _ (List.Perm.cons _ (List.perm_middle (l₁ := [B1, B8, B10]) (a := B16) (l₂ := [B17])))))))))))))))))))))))))))
theorem pr_18_0_2_3_4_5_6_7_9_11_12_13_14_15_16 (B0 B1 B2 B3 B4 B5 B6 B7 B8 B9 B10 B11 B12 B13 B14 B15 B16 B17 : va_W) : ([B0, B2, B3, B4, B5, B6, B7, B9, B11, B12, B13, B14, B15, B16] ++ [B1, B8, B10, B17]).Perm [B0, B1, B2, B3, B4, B5, B6, B7, B8, B9, B10, B11, B12, B13, B14, B15, B16, B17] := (pm_18_0_2_3_4_5_6_7_9_11_12_13_14_15_16 B0 B1 B2 B3 B4 B5 B6 B7 B8 B9 B10 B11 B12 B13 B14 B15 B16 B17).symm
theorem ib_digest {K : KT} {cc : ByteArray} {nL : Nat} {own : String} {ret : Option FieldType} {rm : Room} {ce sl pc index : Nat} {lv : List (Option Value)} {sk : List Value} (C : Cx K cc nL own ret rm) {A : AT} {c : Int} {L : LT} {S : Int → Int} {u : SC} (hI : Inv S) (hL : Cond.methodLink own index yX5_digest ∈ GW) (hlv : lv.length = nL) (hR0 : (rmN 27 0 0).frames + 1 ≤ rm.frames ∧ 8 + (5 + 11) + (rmN 27 0 0).locals ≤ rm.locals) (hd : decode cc pc = .ok (.invokevirtual index, 3)) (hsk : (sk.map fun v => v.category).sum ≤ 8) (hs0 : ce ≤ rm.cells ∧ sl ≤ rm.slots) (kk : ∀ u2 : SC, J K ce sl [wB (kC K) A c L S u2] lv (pc + 3) (.long (lI (digS S 0 c)) :: sk)) : J K ce sl [wB (kC K) A c L S u] lv pc (.ref A.1 :: sk) := by
  refine j_flat wB_open ?_
  refine j_perm (pm_18_0_2_3_4_5_6_7_9_11_12_13_14_15_16 _ _ _ _ _ _ _ _ _ _ _ _ _ _ _ _ _ _) ?_
  refine j_callVl C (As := []) (c_X5_digest _ _ _ _ _ _ _ _ _ _ (A.2.2.2.2.2.2.2) _ _ _ _ _ _ _ _ _ _ _ _ hI) 0 nf_X5_digest (jb := 0) rfl rfl hL wI_X5_digest wSe_X5_X5_digest wIn_X5 wC_X5_digest rfl hlv hR0 hd hsk hs0 (fun x u1 h1 => ?_)
  refine j_perm (pr_18_0_2_3_4_5_6_7_9_11_12_13_14_15_16 _ _ _ _ _ _ _ _ _ _ _ _ _ _ _ _ _ _) ?_
  refine j_flat wB_close ?_
  have h1 : x = digS S 0 c := h1
  subst h1
  exact kk _

set_option maxHeartbeats 1600000 in
set_option maxRecDepth 100000 in
theorem c_law_pay {K : KT} (C : Cx K cL_law 19 RL (some .boolean) room_1) (XK : WX K) (hfl : (kl K).stackTraces = false) {b0 Ls : Nat} {xs : Nat → Int32} (hX : va_X b0 Ls xs (ks K) (ks K).heap) (hbl : b0 < (ks K).heap.size) (hbA : ¬ kA K b0) (hL : Ls ≤ 260) {A : AT} {ce sl : Nat} (hce : ce ≤ 1000) (hsl : sl ≤ 100000) {c : Int} {L : LT} {S : Int → Int} {u : SC} {k y z p : Int} (hk : 0 ≤ k ∧ k ≤ 13) (hy : 0 ≤ z ∧ z ≤ 2147483647) (hp : 0 ≤ p ∧ p < S 1) (hrel : LY k c L S) (kk : KK K b0 A k ce sl) : J K ce sl [wB (kC K) A c L S u] [some (.ref b0), some (.ref A.1), some (.int (iI 1)), some (.int (iI k)), some (.int (iI y)), some (.int (iI z)), some (.int (iI (S 0))), some (.int (iI p)), none, none, none, none, none, none, none, none, none, none, none] 236 [] := by
  obtain ⟨g, hc, h0, h1, h4⟩ := id hrel
  have hI := g.1
  have hz := g.2.1
  have hN := hI.2.1
  have hQ := hI.1
  have hvb := val_bd g
  have hrl := RS_len hI
  have fp := hI.2.2 p hp.1 hp.2
  have hsame : LY (k + 1) c L S := ⟨g, hc, h0, ⟨h1.1, by omega⟩, h4.1, by omega⟩
  have hnb := netS_bd hI (fr S p)
  have hw : 0 ≤ z / 64 % 100 ∧ z / 64 % 100 < 100 := by omega
  refine j_aload_n C dL_law_236 rfl ?_
  refine j_iload C dL_law_237 rfl ?_
  refine j_iconst C dL_law_239 ?_
  refine j_perm (pm_1_0 _) ?_
  refine j_callW C XK (As := [.ref _, .int (iI _), .int (iI _)]) (c_L_promiseOf _ _ _ _ _ _ _ _ _ _ (by first | assumption | omega) (by first | assumption | omega) (by first | assumption | omega)) 3 nf_L_promiseOf.2 wL_L_73 wS_L_promiseOf wIn_L wC_L_promiseOf rfl rfl (by decide) dL_law_240 (Nat.le_of_ble_eq_true rfl) ⟨by dsimp only [rmN, room_1]; omega, by dsimp only [rmN, room_1]; omega⟩ (fun x240 u240 h240 => ?_)
  refine j_perm (pr_1_0 _) ?_
  have h240 : x240 = am S p := h240.trans pO2
  subst h240
  refine j_ist_8 C dL_law_243 rfl ?_
  refine j_aload_n C dL_law_245 rfl ?_
  refine j_aload_n C dL_law_246 rfl ?_
  refine j_iload C dL_law_247 rfl ?_
  refine j_iconst C dL_law_249 ?_
  refine j_perm (pm_1_0 _) ?_
  refine j_callW C XK (As := [.ref _, .int (iI _), .int (iI _)]) (c_L_promiseOf _ _ _ _ _ _ _ _ _ _ (by first | assumption | omega) (by first | assumption | omega) (by first | assumption | omega)) 3 nf_L_promiseOf.2 wL_L_73 wS_L_promiseOf wIn_L wC_L_promiseOf rfl rfl (by decide) dL_law_250 (Nat.le_of_ble_eq_true rfl) ⟨by dsimp only [rmN, room_1]; omega, by dsimp only [rmN, room_1]; omega⟩ (fun x250 u250 h250 => ?_)
  refine j_perm (pr_1_0 _) ?_
  have h250 : x250 = fr S p := h250.trans pO0
  subst h250
  refine j_perm (pm_1_0 _) ?_
  refine j_callW C XK (As := [.ref _, .int (iI _)]) (c_L_net _ _ _ _ _ _ _ _ _ (by first | assumption | omega) (by exact fp.1)) 2 nf_L_net.2 wL_L_78 wS_L_net wIn_L wC_L_net rfl rfl (by decide) dL_law_253 (Nat.le_of_ble_eq_true rfl) ⟨by dsimp only [rmN, room_1]; omega, by dsimp only [rmN, room_1]; omega⟩ (fun x253 u253 h253 => ?_)
  refine j_perm (pr_1_0 _) ?_
  have h253 : x253 = netS S (fr S p) := h253
  subst h253
  refine j_ist_9 C dL_law_256 rfl ?_
  refine j_aload_n C dL_law_258 rfl ?_
  refine j_iload C dL_law_259 rfl ?_
  refine j_iconst C dL_law_261 ?_
  refine j_iload C dL_law_262 rfl ?_
  refine j_bipush C dL_law_264 (by decide) ?_
  refine j_idiv C dL_law_266 (by omega) (by omega) (by omega) (by omega) ?_
  refine j_bipush C dL_law_267 (by decide) ?_
  refine j_irem C dL_law_269 (by omega) (by omega) (by omega) (by omega) ?_
  refine j_iadd C dL_law_270 ?_
  rcases (by omega : ((1 + z / 64 % 100) ≤ am S p) ∨ (am S p < (1 + z / 64 % 100))) with q0 | q0
  · refine j_perm (pm_1_0 _) ?_
    refine j_callW C XK (As := [.ref _, .int (iI _), .int (iI _)]) (c_L_pays _ _ _ _ _ _ _ _ _ _ (by first | assumption | omega) (by exact hz) (by first | assumption | omega) (by first | assumption | omega) (by omega)) 3 nf_L_pays.2 wL_L_123 wS_L_pays wIn_L wC_L_pays rfl rfl (by decide) dL_law_271 (Nat.le_of_ble_eq_true rfl) ⟨by dsimp only [rmN, room_1]; omega, by dsimp only [rmN, room_1]; omega⟩ (fun x271 u271 h271 => ?_)
    refine j_perm (pr_1_0 _) ?_
    have hch := Ch_pay (S := S) (i := p) (x := (1 + z / 64 % 100)) hp.1
    have g2 := Good_pay (x := (1 + z / 64 % 100)) g hp.1 hp.2 (by omega) q0
    have hI2 := g2.1
    have ham := payP_am (S := S) (i := p) (x := (1 + z / 64 % 100)) hp.1
    have h271x : x271 = am (payP S p (1 + z / 64 % 100)) p := h271.1
    have hcl := (SVd_len hc h271.2).1
    have e0 : (payP S p (1 + z / 64 % 100)) 0 = S 0 := hch.1
    have e1 : (payP S p (1 + z / 64 % 100)) 1 = S 1 := hch.2.1
    have hfr : fr (payP S p (1 + z / 64 % 100)) p = fr S p := (hch.2.2.2.2 p hp.1).1
    have e4 : (payP S p (1 + z / 64 % 100)) 4 = S 4 := by rw [payP_at hp.1, if_neg (by omega), if_neg (by omega), if_neg (by omega)]
    have hp2 : 0 ≤ p ∧ p < (payP S p (1 + z / 64 % 100)) 1 := by omega
    have fp2 : 0 ≤ fr S p ∧ fr S p < (payP S p (1 + z / 64 % 100)) 0 := by omega
    have hnet := pay_net (x := (1 + z / 64 % 100)) hI hp.1 hp.2
    have hnx : LY (k + 1) (cNx c) u271.1 (payP S p (1 + z / 64 % 100)) := ⟨g2, hcl, by omega, by omega, by omega⟩
    refine j_ist_10 C dL_law_274 rfl ?_
    refine j_iload C dL_law_276 rfl ?_
    refine j_iconst C dL_law_278 ?_
    refine j_iload C dL_law_279 rfl ?_
    refine j_bipush C dL_law_281 (by decide) ?_
    refine j_idiv C dL_law_283 (by omega) (by omega) (by omega) (by omega) ?_
    refine j_bipush C dL_law_284 (by decide) ?_
    refine j_irem C dL_law_286 (by omega) (by omega) (by omega) (by omega) ?_
    refine j_iadd C dL_law_287 ?_
    refine j_iload C dL_law_288 rfl ?_
    refine j_icmp_le (tgt := 298) C dL_law_290 (by decide) (by omega) (by omega) (by omega) (by omega) (fun c290 => ?_) (fun c290 => ?_)
    · refine j_iload C dL_law_298 rfl ?_
      refine j_iconst C dL_law_300 ?_
      refine j_isub C dL_law_301 ?_
      refine j_iload C dL_law_302 rfl ?_
      refine j_bipush C dL_law_304 (by decide) ?_
      refine j_idiv C dL_law_306 (by omega) (by omega) (by omega) (by omega) ?_
      refine j_bipush C dL_law_307 (by decide) ?_
      refine j_irem C dL_law_309 (by omega) (by omega) (by omega) (by omega) ?_
      refine j_isub C dL_law_310 ?_
      refine j_icmp_ne (tgt := 355) C dL_law_311 (by decide) (by omega) (by omega) (by omega) (by omega) (fun c311 => ?_) (fun c311 => ?_)
      · exfalso; omega
      · refine j_aload_n C dL_law_314 rfl ?_
        refine j_aload_n C dL_law_315 rfl ?_
        refine j_iload C dL_law_316 rfl ?_
        refine j_iconst C dL_law_318 ?_
        refine j_perm (pm_1_0 _) ?_
        refine j_callW C XK (As := [.ref _, .int (iI _), .int (iI _)]) (c_L_promiseOf _ _ _ _ _ _ _ _ _ _ (by first | exact hI2 | exact hI) (by first | exact hp2 | exact hp) (by first | assumption | omega)) 3 nf_L_promiseOf.2 wL_L_73 wS_L_promiseOf wIn_L wC_L_promiseOf rfl rfl (by decide) dL_law_319 (Nat.le_of_ble_eq_true rfl) ⟨by dsimp only [rmN, room_1]; omega, by dsimp only [rmN, room_1]; omega⟩ (fun x319 u319 h319 => ?_)
        refine j_perm (pr_1_0 _) ?_
        have h319 : x319 = fr S p := by first | exact (h319.trans pO0).trans hfr | exact h319.trans pO0
        subst h319
        refine j_perm (pm_1_0 _) ?_
        refine j_callW C XK (As := [.ref _, .int (iI _)]) (c_L_net _ _ _ _ _ _ _ _ _ (by first | exact hI2 | exact hI) (by first | exact fp2 | exact fp.1)) 2 nf_L_net.2 wL_L_78 wS_L_net wIn_L wC_L_net rfl rfl (by decide) dL_law_322 (Nat.le_of_ble_eq_true rfl) ⟨by dsimp only [rmN, room_1]; omega, by dsimp only [rmN, room_1]; omega⟩ (fun x322 u322 h322 => ?_)
        refine j_perm (pr_1_0 _) ?_
        have h322 : x322 = netS _ (fr S p) := h322
        refine j_iload C dL_law_325 rfl ?_
        refine j_if_ge (tgt := 335) C dL_law_327 (by decide) (by omega) (by omega) (fun c327 => ?_) (fun c327 => ?_)
        · refine j_iload C dL_law_335 rfl ?_
          refine j_iconst C dL_law_337 ?_
          refine j_iadd C dL_law_338 ?_
          refine j_iload C dL_law_339 rfl ?_
          refine j_bipush C dL_law_341 (by decide) ?_
          refine j_idiv C dL_law_343 (by omega) (by omega) (by omega) (by omega) ?_
          refine j_bipush C dL_law_344 (by decide) ?_
          refine j_irem C dL_law_346 (by omega) (by omega) (by omega) (by omega) ?_
          refine j_iadd C dL_law_347 ?_
          refine j_icmp_ne (tgt := 355) C dL_law_348 (by decide) (by omega) (by omega) (by omega) (by omega) (fun c348 => ?_) (fun c348 => ?_)
          · exfalso; omega
          · refine j_iconst C dL_law_351 ?_
            refine j_goto (tgt := 356) C dL_law_352 (by decide) ?_
            refine j_istn_2 C dL_law_356 rfl ?_
            refine j_goto (tgt := 651) C dL_law_357 (by decide) ?_
            exact j_lle (lv' := [_, _, _, _, none, none, none, none, none, none, none, none, none, none, none, none, none, none, none]) ⟨Or.inr rfl, ⟨Or.inr rfl, ⟨Or.inr rfl, ⟨Or.inr rfl, ⟨Or.inl rfl, ⟨Or.inl rfl, ⟨Or.inl rfl, ⟨Or.inl rfl, ⟨Or.inl rfl, ⟨Or.inl rfl, ⟨Or.inl rfl, ⟨Or.inl rfl, ⟨Or.inl rfl, ⟨Or.inl rfl, ⟨Or.inl rfl, ⟨Or.inl rfl, ⟨Or.inl rfl, ⟨Or.inl rfl, ⟨Or.inl rfl, trivial⟩⟩⟩⟩⟩⟩⟩⟩⟩⟩⟩⟩⟩⟩⟩⟩⟩⟩⟩ (j_widen (ce' := ce + 9) (sl' := sl + 333) (by first | omega | (dsimp only [rmN]; omega)) (by first | omega | (dsimp only [rmN]; omega)) (kk _ _ _ _ (by assumption)))
        · exfalso; omega
    · exfalso; omega
  · refine j_perm (pm_1_0 _) ?_
    refine j_callW C XK (As := [.ref _, .int (iI _), .int (iI _)]) (c_L_pays_xC _ _ _ _ _ _ _ _ _ _ (by assumption) (by first | assumption | omega) (by first | assumption | omega) (by omega) (by omega) (by omega)) 3 nf_L_pays.2 wL_L_123 wS_L_pays wIn_L wC_L_pays rfl rfl (by decide) dL_law_271 (Nat.le_of_ble_eq_true rfl) ⟨by dsimp only [rmN, room_1]; omega, by dsimp only [rmN, room_1]; omega⟩ (fun x271 u271 h271 => ?_)
    refine j_perm (pr_1_0 _) ?_
    have h271x : x271 = -2000003 := h271
    refine j_ist_10 C dL_law_274 rfl ?_
    refine j_iload C dL_law_276 rfl ?_
    refine j_iconst C dL_law_278 ?_
    refine j_iload C dL_law_279 rfl ?_
    refine j_bipush C dL_law_281 (by decide) ?_
    refine j_idiv C dL_law_283 (by omega) (by omega) (by omega) (by omega) ?_
    refine j_bipush C dL_law_284 (by decide) ?_
    refine j_irem C dL_law_286 (by omega) (by omega) (by omega) (by omega) ?_
    refine j_iadd C dL_law_287 ?_
    refine j_iload C dL_law_288 rfl ?_
    refine j_icmp_le (tgt := 298) C dL_law_290 (by decide) (by omega) (by omega) (by omega) (by omega) (fun c290 => ?_) (fun c290 => ?_)
    · exfalso; omega
    · refine j_ldc C (-2000003) (by decide) wN_L_26 dL_law_293 ?_
      refine j_goto (tgt := 311) C dL_law_295 (by decide) ?_
      refine j_icmp_ne (tgt := 355) C dL_law_311 (by decide) (by omega) (by omega) (by omega) (by omega) (fun c311 => ?_) (fun c311 => ?_)
      · exfalso; omega
      · refine j_aload_n C dL_law_314 rfl ?_
        refine j_aload_n C dL_law_315 rfl ?_
        refine j_iload C dL_law_316 rfl ?_
        refine j_iconst C dL_law_318 ?_
        refine j_perm (pm_1_0 _) ?_
        refine j_callW C XK (As := [.ref _, .int (iI _), .int (iI _)]) (c_L_promiseOf _ _ _ _ _ _ _ _ _ _ (by first | exact hI2 | exact hI) (by first | exact hp2 | exact hp) (by first | assumption | omega)) 3 nf_L_promiseOf.2 wL_L_73 wS_L_promiseOf wIn_L wC_L_promiseOf rfl rfl (by decide) dL_law_319 (Nat.le_of_ble_eq_true rfl) ⟨by dsimp only [rmN, room_1]; omega, by dsimp only [rmN, room_1]; omega⟩ (fun x319 u319 h319 => ?_)
        refine j_perm (pr_1_0 _) ?_
        have h319 : x319 = fr S p := by first | exact (h319.trans pO0).trans hfr | exact h319.trans pO0
        subst h319
        refine j_perm (pm_1_0 _) ?_
        refine j_callW C XK (As := [.ref _, .int (iI _)]) (c_L_net _ _ _ _ _ _ _ _ _ (by first | exact hI2 | exact hI) (by first | exact fp2 | exact fp.1)) 2 nf_L_net.2 wL_L_78 wS_L_net wIn_L wC_L_net rfl rfl (by decide) dL_law_322 (Nat.le_of_ble_eq_true rfl) ⟨by dsimp only [rmN, room_1]; omega, by dsimp only [rmN, room_1]; omega⟩ (fun x322 u322 h322 => ?_)
        refine j_perm (pr_1_0 _) ?_
        have h322 : x322 = netS _ (fr S p) := h322
        refine j_iload C dL_law_325 rfl ?_
        refine j_if_ge (tgt := 335) C dL_law_327 (by decide) (by omega) (by omega) (fun c327 => ?_) (fun c327 => ?_)
        · exfalso; omega
        · refine j_iload C dL_law_330 rfl ?_
          refine j_goto (tgt := 348) C dL_law_332 (by decide) ?_
          refine j_icmp_ne (tgt := 355) C dL_law_348 (by decide) (by omega) (by omega) (by omega) (by omega) (fun c348 => ?_) (fun c348 => ?_)
          · exfalso; omega
          · refine j_iconst C dL_law_351 ?_
            refine j_goto (tgt := 356) C dL_law_352 (by decide) ?_
            refine j_istn_2 C dL_law_356 rfl ?_
            refine j_goto (tgt := 651) C dL_law_357 (by decide) ?_
            exact j_lle (lv' := [_, _, _, _, none, none, none, none, none, none, none, none, none, none, none, none, none, none, none]) ⟨Or.inr rfl, ⟨Or.inr rfl, ⟨Or.inr rfl, ⟨Or.inr rfl, ⟨Or.inl rfl, ⟨Or.inl rfl, ⟨Or.inl rfl, ⟨Or.inl rfl, ⟨Or.inl rfl, ⟨Or.inl rfl, ⟨Or.inl rfl, ⟨Or.inl rfl, ⟨Or.inl rfl, ⟨Or.inl rfl, ⟨Or.inl rfl, ⟨Or.inl rfl, ⟨Or.inl rfl, ⟨Or.inl rfl, ⟨Or.inl rfl, trivial⟩⟩⟩⟩⟩⟩⟩⟩⟩⟩⟩⟩⟩⟩⟩⟩⟩⟩⟩ (j_widen (ce' := ce + 9) (sl' := sl + 333) (by first | omega | (dsimp only [rmN]; omega)) (by first | omega | (dsimp only [rmN]; omega)) (kk _ _ _ _ (by assumption)))
set_option maxHeartbeats 1600000 in
set_option maxRecDepth 100000 in
theorem c_law_dis {K : KT} (C : Cx K cL_law 19 RL (some .boolean) room_1) (XK : WX K) (hfl : (kl K).stackTraces = false) {b0 Ls : Nat} {xs : Nat → Int32} (hX : va_X b0 Ls xs (ks K) (ks K).heap) (hbl : b0 < (ks K).heap.size) (hbA : ¬ kA K b0) (hL : Ls ≤ 260) {A : AT} {ce sl : Nat} (hce : ce ≤ 1000) (hsl : sl ≤ 100000) {c : Int} {L : LT} {S : Int → Int} {u : SC} {k y z p : Int} (hk : 0 ≤ k ∧ k ≤ 13) (hy : 0 ≤ z ∧ z ≤ 2147483647) (hp : 0 ≤ p ∧ p < S 1) (hrel : LY k c L S) (kk : KK K b0 A k ce sl) : J K ce sl [wB (kC K) A c L S u] [some (.ref b0), some (.ref A.1), some (.int (iI 1)), some (.int (iI k)), some (.int (iI y)), some (.int (iI z)), some (.int (iI (S 0))), some (.int (iI p)), none, none, none, none, none, none, none, none, none, none, none] 360 [] := by
  obtain ⟨g, hc, h0, h1, h4⟩ := id hrel
  have hI := g.1
  have hz := g.2.1
  have hN := hI.2.1
  have hQ := hI.1
  have hvb := val_bd g
  have hrl := RS_len hI
  have fp := hI.2.2 p hp.1 hp.2
  have hsame : LY (k + 1) c L S := ⟨g, hc, h0, ⟨h1.1, by omega⟩, h4.1, by omega⟩
  have L385 : ∀ (fl : Int) (u2 : SC) (hfl2 : fl = if 0 < am S p ∧ di S p = 0 then 1 else 0), J K ce sl [wB (kC K) A c L S u2] [some (.ref b0), some (.ref A.1), some (.int (iI 1)), some (.int (iI k)), some (.int (iI y)), some (.int (iI z)), some (.int (iI (S 0))), some (.int (iI p)), none, none, none, none, none, none, none, none, none, none, none] 385 [.int (iI fl)] := by
    intro fl u2 hfl2
    refine j_ist_11 C dL_law_385 rfl ?_
    refine j_aload_n C dL_law_387 rfl ?_
    refine j_iload C dL_law_388 rfl ?_
    rcases (by omega : (0 < am S p ∧ di S p = 0) ∨ (¬ (0 < am S p ∧ di S p = 0))) with q0 | q0
    · refine j_perm (pm_1_0 _) ?_
      refine j_callW C XK (As := [.ref _, .int (iI _)]) (c_L_disputes _ _ _ _ _ _ _ _ _ (by first | assumption | omega) (by exact hz) (by first | assumption | omega) (by first | assumption | omega) (by exact q0)) 2 nf_L_disputes.2 wL_L_126 wS_L_disputes wIn_L wC_L_disputes rfl rfl (by decide) dL_law_390 (Nat.le_of_ble_eq_true rfl) ⟨by dsimp only [rmN, room_1]; omega, by dsimp only [rmN, room_1]; omega⟩ (fun x390 u390 h390 => ?_)
      refine j_perm (pr_1_0 _) ?_
      have g2 := Good_di (S := S) (i := p) (w := 1) g hp.1 (by omega)
      have hI2 := g2.1
      have e0 : (st S (9 + 8 * p) 1) 0 = S 0 := st_n (by omega)
      have e1 : (st S (9 + 8 * p) 1) 1 = S 1 := st_n (by omega)
      have e4 : (st S (9 + 8 * p) 1) 4 = S 4 := st_n (by omega)
      have hd : di (st S (9 + 8 * p) 1) p = 1 := st_s _ _ _
      have hrl2 := RS_len hI2
      have hp2 : 0 ≤ p ∧ p < (st S (9 + 8 * p) 1) 1 := by omega
      have hls := dis_less (i := p) hI hp.1
      have h390x : x390 = ((RS S).length : Int) - ((RS (st S (9 + 8 * p) 1)).length : Int) := h390.1
      have hcl := (SVd_len hc h390.2).1
      have hnx : LY (k + 1) (cNx c) u390.1 (st S (9 + 8 * p) 1) := ⟨g2, hcl, by omega, by omega, by omega⟩
      rw [if_pos q0] at hfl2
      refine j_ist_12 C dL_law_393 rfl ?_
      refine j_iload C dL_law_395 rfl ?_
      refine j_if_eq (tgt := 424) C dL_law_397 (by decide) (by omega) (by omega) (fun c397 => ?_) (fun c397 => ?_)
      · exfalso; omega
      · refine j_iload C dL_law_400 rfl ?_
        refine j_if_lt (tgt := 420) C dL_law_402 (by decide) (by omega) (by omega) (fun c402 => ?_) (fun c402 => ?_)
        · exfalso; omega
        · refine j_aload_n C dL_law_405 rfl ?_
          refine j_iload C dL_law_406 rfl ?_
          refine j_iconst C dL_law_408 ?_
          refine j_perm (pm_1_0 _) ?_
          refine j_callW C XK (As := [.ref _, .int (iI _), .int (iI _)]) (c_L_promiseOf _ _ _ _ _ _ _ _ _ _ (by exact hI2) (by exact hp2) (by first | assumption | omega)) 3 nf_L_promiseOf.2 wL_L_73 wS_L_promiseOf wIn_L wC_L_promiseOf rfl rfl (by decide) dL_law_409 (Nat.le_of_ble_eq_true rfl) ⟨by dsimp only [rmN, room_1]; omega, by dsimp only [rmN, room_1]; omega⟩ (fun x409 u409 h409 => ?_)
          refine j_perm (pr_1_0 _) ?_
          have h409 : x409 = 1 := (h409.trans pO4).trans hd
          refine j_iconst C dL_law_412 ?_
          refine j_icmp_ne (tgt := 420) C dL_law_413 (by decide) (by omega) (by omega) (by omega) (by omega) (fun c413 => ?_) (fun c413 => ?_)
          · exfalso; omega
          · refine j_iconst C dL_law_416 ?_
            refine j_goto (tgt := 436) C dL_law_417 (by decide) ?_
            refine j_istn_2 C dL_law_436 rfl ?_
            refine j_goto (tgt := 651) C dL_law_437 (by decide) ?_
            exact j_lle (lv' := [_, _, _, _, none, none, none, none, none, none, none, none, none, none, none, none, none, none, none]) ⟨Or.inr rfl, ⟨Or.inr rfl, ⟨Or.inr rfl, ⟨Or.inr rfl, ⟨Or.inl rfl, ⟨Or.inl rfl, ⟨Or.inl rfl, ⟨Or.inl rfl, ⟨Or.inl rfl, ⟨Or.inl rfl, ⟨Or.inl rfl, ⟨Or.inl rfl, ⟨Or.inl rfl, ⟨Or.inl rfl, ⟨Or.inl rfl, ⟨Or.inl rfl, ⟨Or.inl rfl, ⟨Or.inl rfl, ⟨Or.inl rfl, trivial⟩⟩⟩⟩⟩⟩⟩⟩⟩⟩⟩⟩⟩⟩⟩⟩⟩⟩⟩ (j_widen (ce' := ce + 9) (sl' := sl + 333) (by first | omega | (dsimp only [rmN]; omega)) (by first | omega | (dsimp only [rmN]; omega)) (kk _ _ _ _ (by assumption)))
    · refine j_perm (pm_1_0 _) ?_
      refine j_callW C XK (As := [.ref _, .int (iI _)]) (c_L_disputes_xC _ _ _ _ _ _ _ _ _ (by assumption) (by first | assumption | omega) (by first | assumption | omega) (by exact q0)) 2 nf_L_disputes.2 wL_L_126 wS_L_disputes wIn_L wC_L_disputes rfl rfl (by decide) dL_law_390 (Nat.le_of_ble_eq_true rfl) ⟨by dsimp only [rmN, room_1]; omega, by dsimp only [rmN, room_1]; omega⟩ (fun x390 u390 h390 => ?_)
      refine j_perm (pr_1_0 _) ?_
      have h390x : x390 = -2000002 := h390
      rw [if_neg q0] at hfl2
      refine j_ist_12 C dL_law_393 rfl ?_
      refine j_iload C dL_law_395 rfl ?_
      refine j_if_eq (tgt := 424) C dL_law_397 (by decide) (by omega) (by omega) (fun c397 => ?_) (fun c397 => ?_)
      · refine j_iload C dL_law_424 rfl ?_
        refine j_ldc C (-2000002) (by decide) wN_L_23 dL_law_426 ?_
        refine j_icmp_ne (tgt := 435) C dL_law_428 (by decide) (by omega) (by omega) (by omega) (by omega) (fun c428 => ?_) (fun c428 => ?_)
        · exfalso; omega
        · refine j_iconst C dL_law_431 ?_
          refine j_goto (tgt := 436) C dL_law_432 (by decide) ?_
          refine j_istn_2 C dL_law_436 rfl ?_
          refine j_goto (tgt := 651) C dL_law_437 (by decide) ?_
          exact j_lle (lv' := [_, _, _, _, none, none, none, none, none, none, none, none, none, none, none, none, none, none, none]) ⟨Or.inr rfl, ⟨Or.inr rfl, ⟨Or.inr rfl, ⟨Or.inr rfl, ⟨Or.inl rfl, ⟨Or.inl rfl, ⟨Or.inl rfl, ⟨Or.inl rfl, ⟨Or.inl rfl, ⟨Or.inl rfl, ⟨Or.inl rfl, ⟨Or.inl rfl, ⟨Or.inl rfl, ⟨Or.inl rfl, ⟨Or.inl rfl, ⟨Or.inl rfl, ⟨Or.inl rfl, ⟨Or.inl rfl, ⟨Or.inl rfl, trivial⟩⟩⟩⟩⟩⟩⟩⟩⟩⟩⟩⟩⟩⟩⟩⟩⟩⟩⟩ (j_widen (ce' := ce + 9) (sl' := sl + 333) (by first | omega | (dsimp only [rmN]; omega)) (by first | omega | (dsimp only [rmN]; omega)) (kk _ _ _ _ (by assumption)))
      · exfalso; omega
  refine j_aload_n C dL_law_360 rfl ?_
  refine j_iload C dL_law_361 rfl ?_
  refine j_iconst C dL_law_363 ?_
  refine j_perm (pm_1_0 _) ?_
  refine j_callW C XK (As := [.ref _, .int (iI _), .int (iI _)]) (c_L_promiseOf _ _ _ _ _ _ _ _ _ _ (by first | assumption | omega) (by first | assumption | omega) (by first | assumption | omega)) 3 nf_L_promiseOf.2 wL_L_73 wS_L_promiseOf wIn_L wC_L_promiseOf rfl rfl (by decide) dL_law_364 (Nat.le_of_ble_eq_true rfl) ⟨by dsimp only [rmN, room_1]; omega, by dsimp only [rmN, room_1]; omega⟩ (fun x364 u364 h364 => ?_)
  refine j_perm (pr_1_0 _) ?_
  have h364 : x364 = am S p := h364.trans pO2
  subst h364
  refine j_if_le (tgt := 384) C dL_law_367 (by decide) (by omega) (by omega) (fun c367 => ?_) (fun c367 => ?_)
  · refine j_iconst C dL_law_384 ?_
    exact L385 _ _ (by first | (rw [if_pos (by omega)]; done) | (rw [if_neg (by omega)]))
  · refine j_aload_n C dL_law_370 rfl ?_
    refine j_iload C dL_law_371 rfl ?_
    refine j_iconst C dL_law_373 ?_
    refine j_perm (pm_1_0 _) ?_
    refine j_callW C XK (As := [.ref _, .int (iI _), .int (iI _)]) (c_L_promiseOf _ _ _ _ _ _ _ _ _ _ (by first | assumption | omega) (by first | assumption | omega) (by first | assumption | omega)) 3 nf_L_promiseOf.2 wL_L_73 wS_L_promiseOf wIn_L wC_L_promiseOf rfl rfl (by decide) dL_law_374 (Nat.le_of_ble_eq_true rfl) ⟨by dsimp only [rmN, room_1]; omega, by dsimp only [rmN, room_1]; omega⟩ (fun x374 u374 h374 => ?_)
    refine j_perm (pr_1_0 _) ?_
    have h374 : x374 = di S p := h374.trans pO4
    subst h374
    refine j_if_ne (tgt := 384) C dL_law_377 (by decide) (by omega) (by omega) (fun c377 => ?_) (fun c377 => ?_)
    · refine j_iconst C dL_law_384 ?_
      exact L385 _ _ (by first | (rw [if_pos (by omega)]; done) | (rw [if_neg (by omega)]))
    · refine j_iconst C dL_law_380 ?_
      refine j_goto (tgt := 385) C dL_law_381 (by decide) ?_
      exact L385 _ _ (by first | (rw [if_pos (by omega)]; done) | (rw [if_neg (by omega)]))
set_option maxHeartbeats 1600000 in
set_option maxRecDepth 100000 in
theorem c_law_set {K : KT} (C : Cx K cL_law 19 RL (some .boolean) room_1) (XK : WX K) (hfl : (kl K).stackTraces = false) {b0 Ls : Nat} {xs : Nat → Int32} (hX : va_X b0 Ls xs (ks K) (ks K).heap) (hbl : b0 < (ks K).heap.size) (hbA : ¬ kA K b0) (hL : Ls ≤ 260) {A : AT} {ce sl : Nat} (hce : ce ≤ 1000) (hsl : sl ≤ 100000) {c : Int} {L : LT} {S : Int → Int} {u : SC} {k y z p : Int} (hk : 0 ≤ k ∧ k ≤ 13) (hy : 0 ≤ z ∧ z ≤ 2147483647) (hp : 0 ≤ p ∧ p < S 1) (hrel : LY k c L S) (kk : KK K b0 A k ce sl) : J K ce sl [wB (kC K) A c L S u] [some (.ref b0), some (.ref A.1), some (.int (iI 1)), some (.int (iI k)), some (.int (iI y)), some (.int (iI z)), some (.int (iI (S 0))), some (.int (iI p)), none, none, none, none, none, none, none, none, none, none, none] 440 [] := by
  obtain ⟨g, hc, h0, h1, h4⟩ := id hrel
  have hI := g.1
  have hz := g.2.1
  have hN := hI.2.1
  have hQ := hI.1
  have hvb := val_bd g
  have hrl := RS_len hI
  have fp := hI.2.2 p hp.1 hp.2
  have hsame : LY (k + 1) c L S := ⟨g, hc, h0, ⟨h1.1, by omega⟩, h4.1, by omega⟩
  have L456 : ∀ (fl : Int) (u2 : SC) (hfl2 : fl = if di S p = 1 then 1 else 0), J K ce sl [wB (kC K) A c L S u2] [some (.ref b0), some (.ref A.1), some (.int (iI 1)), some (.int (iI k)), some (.int (iI y)), some (.int (iI z)), some (.int (iI (S 0))), some (.int (iI p)), none, none, none, none, none, none, none, none, none, none, none] 456 [.int (iI fl)] := by
    intro fl u2 hfl2
    refine j_ist_13 C dL_law_456 rfl ?_
    refine j_aload_n C dL_law_458 rfl ?_
    refine j_iload C dL_law_459 rfl ?_
    rcases (by omega : (di S p = 1) ∨ (di S p = 0)) with q0 | q0
    · refine j_perm (pm_1_0 _) ?_
      refine j_callW C XK (As := [.ref _, .int (iI _)]) (c_L_settles _ _ _ _ _ _ _ _ _ (by first | assumption | omega) (by exact hz) (by first | assumption | omega) (by first | assumption | omega) (by exact q0)) 2 nf_L_settles.2 wL_L_129 wS_L_settles wIn_L wC_L_settles rfl rfl (by decide) dL_law_461 (Nat.le_of_ble_eq_true rfl) ⟨by dsimp only [rmN, room_1]; omega, by dsimp only [rmN, room_1]; omega⟩ (fun x461 u461 h461 => ?_)
      refine j_perm (pr_1_0 _) ?_
      have g2 := Good_di (S := S) (i := p) (w := 0) g hp.1 (by omega)
      have hI2 := g2.1
      have e0 : (st S (9 + 8 * p) 0) 0 = S 0 := st_n (by omega)
      have e1 : (st S (9 + 8 * p) 0) 1 = S 1 := st_n (by omega)
      have e4 : (st S (9 + 8 * p) 0) 4 = S 4 := st_n (by omega)
      have hd : di (st S (9 + 8 * p) 0) p = 0 := st_s _ _ _
      have hrl2 := RS_len hI2
      have hp2 : 0 ≤ p ∧ p < (st S (9 + 8 * p) 0) 1 := by omega
      have h461x : x461 = ((RS (st S (9 + 8 * p) 0)).length : Int) := h461.1
      have hcl := (SVd_len hc h461.2).1
      have hnx : LY (k + 1) (cNx c) u461.1 (st S (9 + 8 * p) 0) := ⟨g2, hcl, by omega, by omega, by omega⟩
      rw [if_pos q0] at hfl2
      refine j_ist_14 C dL_law_464 rfl ?_
      refine j_iload C dL_law_466 rfl ?_
      refine j_if_eq (tgt := 500) C dL_law_468 (by decide) (by omega) (by omega) (fun c468 => ?_) (fun c468 => ?_)
      · exfalso; omega
      · refine j_iload C dL_law_471 rfl ?_
        refine j_aload_n C dL_law_473 rfl ?_
        refine j_bipush C dL_law_474 (by decide) ?_
        refine j_perm (pm_1_0 _) ?_
        refine j_callW C XK (As := [.ref _, .int (iI _)]) (c_L_value _ _ _ _ _ _ _ _ _ (by exact hI2) (by first | assumption | omega)) 2 nf_L_value.2 wL_L_68 wS_L_value wIn_L wC_L_value rfl rfl (by decide) dL_law_476 (Nat.le_of_ble_eq_true rfl) ⟨by dsimp only [rmN, room_1]; omega, by dsimp only [rmN, room_1]; omega⟩ (fun x476 u476 h476 => ?_)
        refine j_perm (pr_1_0 _) ?_
        have h476 : x476 = ((RS (st S (9 + 8 * p) 0)).length : Int) := h476.trans vO6
        refine j_icmp_ne (tgt := 496) C dL_law_479 (by decide) (by omega) (by omega) (by omega) (by omega) (fun c479 => ?_) (fun c479 => ?_)
        · exfalso; omega
        · refine j_aload_n C dL_law_482 rfl ?_
          refine j_iload C dL_law_483 rfl ?_
          refine j_iconst C dL_law_485 ?_
          refine j_perm (pm_1_0 _) ?_
          refine j_callW C XK (As := [.ref _, .int (iI _), .int (iI _)]) (c_L_promiseOf _ _ _ _ _ _ _ _ _ _ (by exact hI2) (by exact hp2) (by first | assumption | omega)) 3 nf_L_promiseOf.2 wL_L_73 wS_L_promiseOf wIn_L wC_L_promiseOf rfl rfl (by decide) dL_law_486 (Nat.le_of_ble_eq_true rfl) ⟨by dsimp only [rmN, room_1]; omega, by dsimp only [rmN, room_1]; omega⟩ (fun x486 u486 h486 => ?_)
          refine j_perm (pr_1_0 _) ?_
          have h486 : x486 = 0 := (h486.trans pO4).trans hd
          refine j_if_ne (tgt := 496) C dL_law_489 (by decide) (by omega) (by omega) (fun c489 => ?_) (fun c489 => ?_)
          · exfalso; omega
          · refine j_iconst C dL_law_492 ?_
            refine j_goto (tgt := 512) C dL_law_493 (by decide) ?_
            refine j_istn_2 C dL_law_512 rfl ?_
            refine j_goto (tgt := 651) C dL_law_513 (by decide) ?_
            exact j_lle (lv' := [_, _, _, _, none, none, none, none, none, none, none, none, none, none, none, none, none, none, none]) ⟨Or.inr rfl, ⟨Or.inr rfl, ⟨Or.inr rfl, ⟨Or.inr rfl, ⟨Or.inl rfl, ⟨Or.inl rfl, ⟨Or.inl rfl, ⟨Or.inl rfl, ⟨Or.inl rfl, ⟨Or.inl rfl, ⟨Or.inl rfl, ⟨Or.inl rfl, ⟨Or.inl rfl, ⟨Or.inl rfl, ⟨Or.inl rfl, ⟨Or.inl rfl, ⟨Or.inl rfl, ⟨Or.inl rfl, ⟨Or.inl rfl, trivial⟩⟩⟩⟩⟩⟩⟩⟩⟩⟩⟩⟩⟩⟩⟩⟩⟩⟩⟩ (j_widen (ce' := ce + 9) (sl' := sl + 333) (by first | omega | (dsimp only [rmN]; omega)) (by first | omega | (dsimp only [rmN]; omega)) (kk _ _ _ _ (by assumption)))
    · refine j_perm (pm_1_0 _) ?_
      refine j_callW C XK (As := [.ref _, .int (iI _)]) (c_L_settles_xC _ _ _ _ _ _ _ _ _ (by assumption) (by first | assumption | omega) (by first | assumption | omega) (by exact q0)) 2 nf_L_settles.2 wL_L_129 wS_L_settles wIn_L wC_L_settles rfl rfl (by decide) dL_law_461 (Nat.le_of_ble_eq_true rfl) ⟨by dsimp only [rmN, room_1]; omega, by dsimp only [rmN, room_1]; omega⟩ (fun x461 u461 h461 => ?_)
      refine j_perm (pr_1_0 _) ?_
      have h461x : x461 = -2000002 := h461
      rw [if_neg (by omega)] at hfl2
      refine j_ist_14 C dL_law_464 rfl ?_
      refine j_iload C dL_law_466 rfl ?_
      refine j_if_eq (tgt := 500) C dL_law_468 (by decide) (by omega) (by omega) (fun c468 => ?_) (fun c468 => ?_)
      · refine j_iload C dL_law_500 rfl ?_
        refine j_ldc C (-2000002) (by decide) wN_L_23 dL_law_502 ?_
        refine j_icmp_ne (tgt := 511) C dL_law_504 (by decide) (by omega) (by omega) (by omega) (by omega) (fun c504 => ?_) (fun c504 => ?_)
        · exfalso; omega
        · refine j_iconst C dL_law_507 ?_
          refine j_goto (tgt := 512) C dL_law_508 (by decide) ?_
          refine j_istn_2 C dL_law_512 rfl ?_
          refine j_goto (tgt := 651) C dL_law_513 (by decide) ?_
          exact j_lle (lv' := [_, _, _, _, none, none, none, none, none, none, none, none, none, none, none, none, none, none, none]) ⟨Or.inr rfl, ⟨Or.inr rfl, ⟨Or.inr rfl, ⟨Or.inr rfl, ⟨Or.inl rfl, ⟨Or.inl rfl, ⟨Or.inl rfl, ⟨Or.inl rfl, ⟨Or.inl rfl, ⟨Or.inl rfl, ⟨Or.inl rfl, ⟨Or.inl rfl, ⟨Or.inl rfl, ⟨Or.inl rfl, ⟨Or.inl rfl, ⟨Or.inl rfl, ⟨Or.inl rfl, ⟨Or.inl rfl, ⟨Or.inl rfl, trivial⟩⟩⟩⟩⟩⟩⟩⟩⟩⟩⟩⟩⟩⟩⟩⟩⟩⟩⟩ (j_widen (ce' := ce + 9) (sl' := sl + 333) (by first | omega | (dsimp only [rmN]; omega)) (by first | omega | (dsimp only [rmN]; omega)) (kk _ _ _ _ (by assumption)))
      · exfalso; omega
  refine j_aload_n C dL_law_440 rfl ?_
  refine j_iload C dL_law_441 rfl ?_
  refine j_iconst C dL_law_443 ?_
  refine j_perm (pm_1_0 _) ?_
  refine j_callW C XK (As := [.ref _, .int (iI _), .int (iI _)]) (c_L_promiseOf _ _ _ _ _ _ _ _ _ _ (by first | assumption | omega) (by first | assumption | omega) (by first | assumption | omega)) 3 nf_L_promiseOf.2 wL_L_73 wS_L_promiseOf wIn_L wC_L_promiseOf rfl rfl (by decide) dL_law_444 (Nat.le_of_ble_eq_true rfl) ⟨by dsimp only [rmN, room_1]; omega, by dsimp only [rmN, room_1]; omega⟩ (fun x444 u444 h444 => ?_)
  refine j_perm (pr_1_0 _) ?_
  have h444 : x444 = di S p := h444.trans pO4
  subst h444
  refine j_iconst C dL_law_447 ?_
  refine j_icmp_ne (tgt := 455) C dL_law_448 (by decide) (by omega) (by omega) (by omega) (by omega) (fun c448 => ?_) (fun c448 => ?_)
  · refine j_iconst C dL_law_455 ?_
    exact L456 _ _ (by first | (rw [if_pos (by omega)]; done) | (rw [if_neg (by omega)]))
  · refine j_iconst C dL_law_451 ?_
    refine j_goto (tgt := 456) C dL_law_452 (by decide) ?_
    exact L456 _ _ (by first | (rw [if_pos (by omega)]; done) | (rw [if_neg (by omega)]))
set_option maxHeartbeats 1600000 in
set_option maxRecDepth 100000 in
theorem c_law_best {K : KT} (C : Cx K cL_law 19 RL (some .boolean) room_1) (XK : WX K) (hfl : (kl K).stackTraces = false) {b0 Ls : Nat} {xs : Nat → Int32} (hX : va_X b0 Ls xs (ks K) (ks K).heap) (hbl : b0 < (ks K).heap.size) (hbA : ¬ kA K b0) (hL : Ls ≤ 260) {A : AT} {ce sl : Nat} (hce : ce ≤ 1000) (hsl : sl ≤ 100000) {c : Int} {L : LT} {S : Int → Int} {u : SC} {k y z p : Int} (hk : 0 ≤ k ∧ k ≤ 13) (hy : 0 ≤ z ∧ z ≤ 2147483647) (hp : 0 ≤ p ∧ p < S 1) (hrel : LY k c L S) (kk : KK K b0 A k ce sl) : J K ce sl [wB (kC K) A c L S u] [some (.ref b0), some (.ref A.1), some (.int (iI 1)), some (.int (iI k)), some (.int (iI y)), some (.int (iI z)), some (.int (iI (S 0))), some (.int (iI p)), none, none, none, none, none, none, none, none, none, none, none] 516 [] := by
  obtain ⟨g, hc, h0, h1, h4⟩ := id hrel
  have hI := g.1
  have hz := g.2.1
  have hN := hI.2.1
  have hQ := hI.1
  have hvb := val_bd g
  have hrl := RS_len hI
  have fp := hI.2.2 p hp.1 hp.2
  have hsame : LY (k + 1) c L S := ⟨g, hc, h0, ⟨h1.1, by omega⟩, h4.1, by omega⟩
  have bz := fun h => best_no (S := S) h
  have b1 := fun h => best_is hI h
  have b2 := best_rng S
  have b3 := best_val S
  have hbv : 0 ≤ best S → 0 < bestV S ∧ bestV S ≤ 2520000 := fun h => by
    have q := RS_get (S := S) h b2.2
    have q1 := room_bd hI q
    have q2 := sav_pos hI q
    have q3 := savP_bd (S := S) (r := ((RS S).getD (best S).toNat [])) hI q.1.2.1 (amt := room S ((RS S).getD (best S).toNat [])) (by omega) (by omega)
    have q4 : bestV S = sav S ((RS S).getD (best S).toNat []) := by omega
    rw [q4]
    exact ⟨q2, q3.2⟩
  refine j_aload_n C dL_law_516 rfl ?_
  refine ib_best C hI wL_L_101 rfl ⟨by decide, by decide⟩ dL_law_517 (Nat.le_of_ble_eq_true rfl) ⟨by dsimp only [room_1]; omega, by dsimp only [room_1]; omega⟩ (fun u517 => ?_)
  refine j_ist_15 C dL_law_520 rfl ?_
  have L538 : ∀ (v : Int) (u2 : SC) (hv : v = if best S < 0 then -2000001 else bestV S), J K ce sl [wB (kC K) A c L S u2] [some (.ref b0), some (.ref A.1), some (.int (iI 1)), some (.int (iI k)), some (.int (iI y)), some (.int (iI z)), some (.int (iI (S 0))), some (.int (iI p)), none, none, none, none, none, none, none, none, none, none, none] 538 [.int (iI v)] := by
    intro v u2 hv
    refine j_ist_16 C dL_law_538 rfl ?_
    refine j_aload_n C dL_law_540 rfl ?_
    rcases (by omega : (0 < (RS S).length) ∨ ((RS S).length = 0)) with q0 | q0
    · refine j_perm (pm_1_0 _) ?_
      refine j_callW C XK (As := [.ref _]) (c_L_bests _ _ _ _ _ _ _ _ (by first | assumption | omega) (by exact hz) (by first | assumption | omega) (by exact q0)) 1 nf_L_bests.2 wL_L_132 wS_L_bests wIn_L wC_L_bests rfl rfl (by decide) dL_law_541 (Nat.le_of_ble_eq_true rfl) ⟨by dsimp only [rmN, room_1]; omega, by dsimp only [rmN, room_1]; omega⟩ (fun x541 u541 h541 => ?_)
      refine j_perm (pr_1_0 _) ?_
      have h541x : x541 = bestV S := h541.1
      have hb := b1 q0
      have hbv := hbv hb
      rw [if_neg (by omega)] at hv
      have hcl := (SVd_len hc h541.2).1
      have hpr := RS_get (S := S) hb b2.2
      have hrb := room_bd hI hpr
      have hda := dis_all g hpr (amt := room S ((RS S).getD (best S).toNat [])) (by omega) (Int.le_refl _)
      have hBB : (if best S = -1 then S else disB S) = disR S ((RS S).getD (best S).toNat []) (room S ((RS S).getD (best S).toNat [])) := by rw [if_neg (by omega)]; rfl
      have e0 := hda.2.1
      have e1 := hda.2.2.1
      have e4 := hda.2.2.2.2.1
      have hnx : LY (k + 1) (cNx c) u541.1 (if best S = -1 then S else disB S) := by rw [hBB]; exact ⟨hda.1, hcl, by omega, by omega, by omega⟩
      refine j_iload C dL_law_544 rfl ?_
      refine j_icmp_ne (tgt := 553) C dL_law_546 (by decide) (by omega) (by omega) (by omega) (by omega) (fun c546 => ?_) (fun c546 => ?_)
      · exfalso; omega
      · refine j_iconst C dL_law_549 ?_
        refine j_goto (tgt := 554) C dL_law_550 (by decide) ?_
        refine j_istn_2 C dL_law_554 rfl ?_
        refine j_goto (tgt := 651) C dL_law_555 (by decide) ?_
        exact j_lle (lv' := [_, _, _, _, none, none, none, none, none, none, none, none, none, none, none, none, none, none, none]) ⟨Or.inr rfl, ⟨Or.inr rfl, ⟨Or.inr rfl, ⟨Or.inr rfl, ⟨Or.inl rfl, ⟨Or.inl rfl, ⟨Or.inl rfl, ⟨Or.inl rfl, ⟨Or.inl rfl, ⟨Or.inl rfl, ⟨Or.inl rfl, ⟨Or.inl rfl, ⟨Or.inl rfl, ⟨Or.inl rfl, ⟨Or.inl rfl, ⟨Or.inl rfl, ⟨Or.inl rfl, ⟨Or.inl rfl, ⟨Or.inl rfl, trivial⟩⟩⟩⟩⟩⟩⟩⟩⟩⟩⟩⟩⟩⟩⟩⟩⟩⟩⟩ (j_widen (ce' := ce + 9) (sl' := sl + 333) (by first | omega | (dsimp only [rmN]; omega)) (by first | omega | (dsimp only [rmN]; omega)) (kk _ _ _ _ (by assumption)))
    · refine j_perm (pm_1_0 _) ?_
      refine j_callW C XK (As := [.ref _]) (c_L_bests_xC _ _ _ _ _ _ _ _ (by assumption) (by first | assumption | omega) (by exact q0)) 1 nf_L_bests.2 wL_L_132 wS_L_bests wIn_L wC_L_bests rfl rfl (by decide) dL_law_541 (Nat.le_of_ble_eq_true rfl) ⟨by dsimp only [rmN, room_1]; omega, by dsimp only [rmN, room_1]; omega⟩ (fun x541 u541 h541 => ?_)
      refine j_perm (pr_1_0 _) ?_
      have h541x : x541 = -2000001 := h541
      have hb := bz q0
      rw [if_pos (by omega)] at hv
      refine j_iload C dL_law_544 rfl ?_
      refine j_icmp_ne (tgt := 553) C dL_law_546 (by decide) (by omega) (by omega) (by omega) (by omega) (fun c546 => ?_) (fun c546 => ?_)
      · exfalso; omega
      · refine j_iconst C dL_law_549 ?_
        refine j_goto (tgt := 554) C dL_law_550 (by decide) ?_
        refine j_istn_2 C dL_law_554 rfl ?_
        refine j_goto (tgt := 651) C dL_law_555 (by decide) ?_
        exact j_lle (lv' := [_, _, _, _, none, none, none, none, none, none, none, none, none, none, none, none, none, none, none]) ⟨Or.inr rfl, ⟨Or.inr rfl, ⟨Or.inr rfl, ⟨Or.inr rfl, ⟨Or.inl rfl, ⟨Or.inl rfl, ⟨Or.inl rfl, ⟨Or.inl rfl, ⟨Or.inl rfl, ⟨Or.inl rfl, ⟨Or.inl rfl, ⟨Or.inl rfl, ⟨Or.inl rfl, ⟨Or.inl rfl, ⟨Or.inl rfl, ⟨Or.inl rfl, ⟨Or.inl rfl, ⟨Or.inl rfl, ⟨Or.inl rfl, trivial⟩⟩⟩⟩⟩⟩⟩⟩⟩⟩⟩⟩⟩⟩⟩⟩⟩⟩⟩ (j_widen (ce' := ce + 9) (sl' := sl + 333) (by first | omega | (dsimp only [rmN]; omega)) (by first | omega | (dsimp only [rmN]; omega)) (kk _ _ _ _ (by assumption)))
  refine j_iload C dL_law_522 rfl ?_
  refine j_if_ge (tgt := 532) C dL_law_524 (by decide) (by omega) (by omega) (fun c524 => ?_) (fun c524 => ?_)
  · refine j_aload_n C dL_law_532 rfl ?_
    refine j_iload C dL_law_533 rfl ?_
    refine j_perm (pm_1_0 _) ?_
    refine j_callW C XK (As := [.ref _, .int (iI _)]) (c_L_saving _ _ _ _ _ _ _ _ _ (by first | assumption | omega) (by omega)) 2 nf_L_saving.2 wL_L_85 wS_L_saving wIn_L wC_L_saving rfl rfl (by decide) dL_law_535 (Nat.le_of_ble_eq_true rfl) ⟨by dsimp only [rmN, room_1]; omega, by dsimp only [rmN, room_1]; omega⟩ (fun x535 u535 h535 => ?_)
    refine j_perm (pr_1_0 _) ?_
    have h535 : x535 = sav S ((RS S).getD (best S).toNat []) := h535
    exact j_lle (lv' := [_, _, _, _, _, _, _, _, none, none, none, none, none, none, none, none, none, none, none]) ⟨Or.inr rfl, ⟨Or.inr rfl, ⟨Or.inr rfl, ⟨Or.inr rfl, ⟨Or.inr rfl, ⟨Or.inr rfl, ⟨Or.inr rfl, ⟨Or.inr rfl, ⟨Or.inl rfl, ⟨Or.inl rfl, ⟨Or.inl rfl, ⟨Or.inl rfl, ⟨Or.inl rfl, ⟨Or.inl rfl, ⟨Or.inl rfl, ⟨Or.inl rfl, ⟨Or.inl rfl, ⟨Or.inl rfl, ⟨Or.inl rfl, trivial⟩⟩⟩⟩⟩⟩⟩⟩⟩⟩⟩⟩⟩⟩⟩⟩⟩⟩⟩ (L538 _ _ (by first | (rw [if_pos (by omega)]; done) | (rw [if_neg (by omega)]; omega)))
  · refine j_ldc C (-2000001) (by decide) wN_L_16 dL_law_527 ?_
    refine j_goto (tgt := 538) C dL_law_529 (by decide) ?_
    exact j_lle (lv' := [_, _, _, _, _, _, _, _, none, none, none, none, none, none, none, none, none, none, none]) ⟨Or.inr rfl, ⟨Or.inr rfl, ⟨Or.inr rfl, ⟨Or.inr rfl, ⟨Or.inr rfl, ⟨Or.inr rfl, ⟨Or.inr rfl, ⟨Or.inr rfl, ⟨Or.inl rfl, ⟨Or.inl rfl, ⟨Or.inl rfl, ⟨Or.inl rfl, ⟨Or.inl rfl, ⟨Or.inl rfl, ⟨Or.inl rfl, ⟨Or.inl rfl, ⟨Or.inl rfl, ⟨Or.inl rfl, ⟨Or.inl rfl, trivial⟩⟩⟩⟩⟩⟩⟩⟩⟩⟩⟩⟩⟩⟩⟩⟩⟩⟩⟩ (L538 _ _ (by first | (rw [if_pos (by omega)]; done) | (rw [if_neg (by omega)]; omega)))
set_option maxHeartbeats 1600000 in
set_option maxRecDepth 100000 in
theorem c_law_one {K : KT} (C : Cx K cL_law 19 RL (some .boolean) room_1) (XK : WX K) (hfl : (kl K).stackTraces = false) {b0 Ls : Nat} {xs : Nat → Int32} (hX : va_X b0 Ls xs (ks K) (ks K).heap) (hbl : b0 < (ks K).heap.size) (hbA : ¬ kA K b0) (hL : Ls ≤ 260) {A : AT} {ce sl : Nat} (hce : ce ≤ 1000) (hsl : sl ≤ 100000) {c : Int} {L : LT} {S : Int → Int} {u : SC} {k y z p : Int} (hk : 0 ≤ k ∧ k ≤ 13) (hy : 0 ≤ z ∧ z ≤ 2147483647) (hp : 0 ≤ p ∧ p < S 1) (hrel : LY k c L S) (kk : KK K b0 A k ce sl) : J K ce sl [wB (kC K) A c L S u] [some (.ref b0), some (.ref A.1), some (.int (iI 1)), some (.int (iI k)), some (.int (iI y)), some (.int (iI z)), some (.int (iI (S 0))), some (.int (iI p)), none, none, none, none, none, none, none, none, none, none, none] 558 [] := by
  obtain ⟨g, hc, h0, h1, h4⟩ := id hrel
  have hI := g.1
  have hz := g.2.1
  have hN := hI.2.1
  have hQ := hI.1
  have hvb := val_bd g
  have hrl := RS_len hI
  have fp := hI.2.2 p hp.1 hp.2
  have hsame : LY (k + 1) c L S := ⟨g, hc, h0, ⟨h1.1, by omega⟩, h4.1, by omega⟩
  refine j_aload_n C dL_law_558 rfl ?_
  refine j_iload C dL_law_559 rfl ?_
  refine j_iconst C dL_law_561 ?_
  refine j_irem C dL_law_562 (by omega) (by omega) (by omega) (by omega) ?_
  refine j_iconst C dL_law_563 ?_
  refine j_iload C dL_law_564 rfl ?_
  refine j_bipush C dL_law_566 (by decide) ?_
  refine j_idiv C dL_law_568 (by omega) (by omega) (by omega) (by omega) ?_
  refine j_sipush C dL_law_569 (by decide) ?_
  refine j_irem C dL_law_572 (by omega) (by omega) (by omega) (by omega) ?_
  refine j_iadd C dL_law_573 ?_
  refine j_perm (pm_1_0 _) ?_
  refine j_callH C XK (As := [.ref _, .int (iI _), .int (iI _)]) (c_L_dischargesOne _ _ _ _ _ _ _ _ _ _ (by first | assumption | omega) (by first | assumption | omega) (by assumption) (by omega) (by omega) (by omega)) 3 nf_L_dischargesOne.2 wL_L_136 wS_L_dischargesOne wIn_L wC_L_dischargesOne rfl rfl (by decide) dL_law_574 (Nat.le_of_ble_eq_true rfl) ⟨by dsimp only [rmN, room_1]; omega, by dsimp only [rmN, room_1]; omega⟩ (fun x574 u574 h574 => ?_)
  refine j_perm (pr_1_0 _) ?_
  obtain ⟨hx, hcl, g2, e0, e1, e4, e5⟩ := h574
  subst hx
  have hnx : LY (k + 1) u574.1 u574.2.1 u574.2.2.1 := ⟨g2, hcl, by omega, by omega, by omega⟩
  refine j_istn_2 C dL_law_577 rfl ?_
  refine j_goto (tgt := 651) C dL_law_578 (by decide) ?_
  exact j_lle (lv' := [_, _, _, _, none, none, none, none, none, none, none, none, none, none, none, none, none, none, none]) ⟨Or.inr rfl, ⟨Or.inr rfl, ⟨Or.inr rfl, ⟨Or.inr rfl, ⟨Or.inl rfl, ⟨Or.inl rfl, ⟨Or.inl rfl, ⟨Or.inl rfl, ⟨Or.inl rfl, ⟨Or.inl rfl, ⟨Or.inl rfl, ⟨Or.inl rfl, ⟨Or.inl rfl, ⟨Or.inl rfl, ⟨Or.inl rfl, ⟨Or.inl rfl, ⟨Or.inl rfl, ⟨Or.inl rfl, ⟨Or.inl rfl, trivial⟩⟩⟩⟩⟩⟩⟩⟩⟩⟩⟩⟩⟩⟩⟩⟩⟩⟩⟩ (j_widen (ce' := ce + 9) (sl' := sl + 333) (by first | omega | (dsimp only [rmN]; omega)) (by first | omega | (dsimp only [rmN]; omega)) (kk _ _ _ _ (by assumption)))
set_option maxHeartbeats 1600000 in
set_option maxRecDepth 100000 in
theorem c_law_add {K : KT} (C : Cx K cL_law 19 RL (some .boolean) room_1) (XK : WX K) (hfl : (kl K).stackTraces = false) {b0 Ls : Nat} {xs : Nat → Int32} (hX : va_X b0 Ls xs (ks K) (ks K).heap) (hbl : b0 < (ks K).heap.size) (hbA : ¬ kA K b0) (hL : Ls ≤ 260) {A : AT} {ce sl : Nat} (hce : ce ≤ 1000) (hsl : sl ≤ 100000) {c : Int} {L : LT} {S : Int → Int} {u : SC} {k y z p : Int} (hk : 0 ≤ k ∧ k ≤ 13) (hy : 0 ≤ z ∧ z ≤ 2147483647) (hp : 0 ≤ p ∧ p < S 1) (hrel : LY k c L S) (kk : KK K b0 A k ce sl) : J K ce sl [wB (kC K) A c L S u] [some (.ref b0), some (.ref A.1), some (.int (iI 1)), some (.int (iI k)), some (.int (iI y)), some (.int (iI z)), some (.int (iI (S 0))), some (.int (iI p)), none, none, none, none, none, none, none, none, none, none, none] 581 [] := by
  obtain ⟨g, hc, h0, h1, h4⟩ := id hrel
  have hI := g.1
  have hz := g.2.1
  have hN := hI.2.1
  have hQ := hI.1
  have hvb := val_bd g
  have hrl := RS_len hI
  have fp := hI.2.2 p hp.1 hp.2
  have hsame : LY (k + 1) c L S := ⟨g, hc, h0, ⟨h1.1, by omega⟩, h4.1, by omega⟩
  have hpk := pick hy.1 h0.1 h0.2
  refine j_aload_n C dL_law_581 rfl ?_
  refine j_iconst C dL_law_582 ?_
  refine j_perm (pm_1_0 _) ?_
  refine j_callW C XK (As := [.ref _, .int (iI _)]) (c_L_value _ _ _ _ _ _ _ _ _ (by first | assumption | omega) (by first | assumption | omega)) 2 nf_L_value.2 wL_L_68 wS_L_value wIn_L wC_L_value rfl rfl (by decide) dL_law_583 (Nat.le_of_ble_eq_true rfl) ⟨by dsimp only [rmN, room_1]; omega, by dsimp only [rmN, room_1]; omega⟩ (fun x583 u583 h583 => ?_)
  refine j_perm (pr_1_0 _) ?_
  have h583 : x583 = S 1 := h583.trans vO1
  subst h583
  refine j_ist_17 C dL_law_586 rfl ?_
  refine j_iload C dL_law_588 rfl ?_
  refine j_iload C dL_law_590 rfl ?_
  refine j_irem C dL_law_592 (by omega) (by omega) (by omega) (by omega) ?_
  refine j_ist_18 C dL_law_593 rfl ?_
  refine j_aload_n C dL_law_595 rfl ?_
  refine j_iload C dL_law_596 rfl ?_
  refine j_iload C dL_law_598 rfl ?_
  refine j_iconst C dL_law_600 ?_
  refine j_iadd C dL_law_601 ?_
  refine j_iload C dL_law_602 rfl ?_
  refine j_bipush C dL_law_604 (by decide) ?_
  refine j_idiv C dL_law_606 (by omega) (by omega) (by omega) (by omega) ?_
  refine j_iload C dL_law_607 rfl ?_
  refine j_iconst C dL_law_609 ?_
  refine j_isub C dL_law_610 ?_
  refine j_irem C dL_law_611 (by omega) (by omega) (by omega) (by omega) ?_
  refine j_iadd C dL_law_612 ?_
  refine j_iload C dL_law_613 rfl ?_
  refine j_irem C dL_law_615 (by omega) (by omega) (by omega) (by omega) ?_
  refine j_iconst C dL_law_616 ?_
  refine j_iload C dL_law_617 rfl ?_
  refine j_bipush C dL_law_619 (by decide) ?_
  refine j_idiv C dL_law_621 (by omega) (by omega) (by omega) (by omega) ?_
  refine j_sipush C dL_law_622 (by decide) ?_
  refine j_irem C dL_law_625 (by omega) (by omega) (by omega) (by omega) ?_
  refine j_iadd C dL_law_626 ?_
  refine j_iconst C dL_law_627 ?_
  refine j_iload C dL_law_628 rfl ?_
  refine j_ldc C 32768 (by decide) wN_L_118 dL_law_630 ?_
  refine j_idiv C dL_law_632 (by omega) (by omega) (by omega) (by omega) ?_
  refine j_bipush C dL_law_633 (by decide) ?_
  refine j_irem C dL_law_635 (by omega) (by omega) (by omega) (by omega) ?_
  refine j_iadd C dL_law_636 ?_
  refine j_perm (pm_1_0 _) ?_
  refine j_callW C XK (As := [.ref _, .int (iI _), .int (iI _), .int (iI _), .int (iI _)]) (c_L_promises _ _ _ _ _ _ _ _ _ _ _ _ (by first | assumption | omega) (by exact hz) (by first | assumption | omega) (by exact hpk.1) (by exact hpk.2.2.1) (by exact hpk.2.2.2) (by omega) (by omega) (by omega)) 5 nf_L_promises.2 wL_L_119 wS_L_promises wIn_L wC_L_promises rfl rfl (by decide) dL_law_637 (Nat.le_of_ble_eq_true rfl) ⟨by dsimp only [rmN, room_1]; omega, by dsimp only [rmN, room_1]; omega⟩ (fun x637 u637 h637 => ?_)
  refine j_perm (pr_1_0 _) ?_
  have h637x : x637 = S 1 := h637.1
  have hcl := (SVd_len hc h637.2).1
  have hga := Good_add (a := z % S 0) (e := (z % S 0 + 1 + z / 8 % (S 0 - 1)) % S 0) (x := 1 + z / 64 % 300) (y := 1 + z / 32768 % 9) g (by omega) hpk.1 hpk.2.2.1 hpk.2.2.2 (by omega) (by omega)
  have hnx : LY (k + 1) (cNx c) u637.1 (addP S (z % S 0) ((z % S 0 + 1 + z / 8 % (S 0 - 1)) % S 0) (1 + z / 64 % 300) (1 + z / 32768 % 9)) := ⟨hga.1, hcl, by omega, by omega, by omega⟩
  refine j_iload C dL_law_640 rfl ?_
  refine j_icmp_ne (tgt := 649) C dL_law_642 (by decide) (by omega) (by omega) (by omega) (by omega) (fun c642 => ?_) (fun c642 => ?_)
  · exfalso; omega
  · refine j_iconst C dL_law_645 ?_
    refine j_goto (tgt := 650) C dL_law_646 (by decide) ?_
    refine j_istn_2 C dL_law_650 rfl ?_
    exact j_lle (lv' := [_, _, _, _, none, none, none, none, none, none, none, none, none, none, none, none, none, none, none]) ⟨Or.inr rfl, ⟨Or.inr rfl, ⟨Or.inr rfl, ⟨Or.inr rfl, ⟨Or.inl rfl, ⟨Or.inl rfl, ⟨Or.inl rfl, ⟨Or.inl rfl, ⟨Or.inl rfl, ⟨Or.inl rfl, ⟨Or.inl rfl, ⟨Or.inl rfl, ⟨Or.inl rfl, ⟨Or.inl rfl, ⟨Or.inl rfl, ⟨Or.inl rfl, ⟨Or.inl rfl, ⟨Or.inl rfl, ⟨Or.inl rfl, trivial⟩⟩⟩⟩⟩⟩⟩⟩⟩⟩⟩⟩⟩⟩⟩⟩⟩⟩⟩ (j_widen (ce' := ce + 9) (sl' := sl + 333) (by first | omega | (dsimp only [rmN]; omega)) (by first | omega | (dsimp only [rmN]; omega)) (kk _ _ _ _ (by assumption)))
