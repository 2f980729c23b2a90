/-! p29: the law: its beginning -/
theorem strsX_in : ∀ q ∈ strsX, Cond.stringRef RX5 q.1 q.2 ∈ lw_tbl := List.forall_mem_cons.mpr ⟨tm20 (List.mem_of_getElem? (i := 122) rfl), List.forall_mem_cons.mpr ⟨tm20 (List.mem_of_getElem? (i := 166) rfl), List.forall_mem_cons.mpr ⟨tm20 (List.mem_of_getElem? (i := 173) rfl), List.forall_mem_cons.mpr ⟨tm30 (List.mem_of_getElem? (i := 13) rfl), List.forall_mem_cons.mpr ⟨tm30 (List.mem_of_getElem? (i := 47) rfl), List.forall_mem_cons.mpr ⟨tm30 (List.mem_of_getElem? (i := 51) rfl), List.forall_mem_cons.mpr ⟨tm30 (List.mem_of_getElem? (i := 65) rfl), List.forall_mem_cons.mpr ⟨tm30 (List.mem_of_getElem? (i := 86) rfl), List.forall_mem_cons.mpr ⟨tm30 (List.mem_of_getElem? (i := 87) rfl), List.forall_mem_cons.mpr ⟨tm30 (List.mem_of_getElem? (i := 105) rfl), List.forall_mem_cons.mpr ⟨tm30 (List.mem_of_getElem? (i := 113) rfl), List.forall_mem_cons.mpr ⟨tm30 (List.mem_of_getElem? (i := 121) rfl), List.forall_mem_cons.mpr ⟨tm30 (List.mem_of_getElem? (i := 122) rfl), List.forall_mem_cons.mpr ⟨tm30 (List.mem_of_getElem? (i := 124) rfl), List.forall_mem_cons.mpr ⟨tm30 (List.mem_of_getElem? (i := 144) rfl), List.forall_mem_cons.mpr ⟨tm30 (List.mem_of_getElem? (i := 169) rfl), List.forall_mem_cons.mpr ⟨tm30 (List.mem_of_getElem? (i := 193) rfl), fun _ h => absurd h List.not_mem_nil⟩⟩⟩⟩⟩⟩⟩⟩⟩⟩⟩⟩⟩⟩⟩⟩⟩
theorem wAO_Book : Cond.arrayOver (.object "PledgeRings$Book") ∈ lw_tbl := tm10 (List.mem_of_getElem? (i := 178) rfl)
theorem wLS_1 : Cond.laysStatic Bundle.tN "UNASSIGNED_STACK" Bundle.steD ∈ lw_tbl := tm20 (List.mem_of_getElem? (i := 108) rfl)
theorem wLS_2 : Cond.laysStatic Bundle.tN "SUPPRESSED_SENTINEL" Bundle.listD ∈ lw_tbl := tm20 (List.mem_of_getElem? (i := 110) rfl)
theorem k_int {s : State} {args : Array Value} (h : (Cond.arrayClass .int).before args s = true) : ∃ c, ArrOfT s c .int ∧ va_RA s c .int := by
  obtain ⟨c, k, comp, h1, h2, h3⟩ := Cond.arrayClass_spec h
  exact ⟨c, fun n z => ⟨fun k h => (by cases h), k, h2, comp, h3⟩, h1⟩
theorem k_bool {s : State} {args : Array Value} (h : (Cond.arrayClass .boolean).before args s = true) : ∃ c, ArrOfT s c .boolean ∧ va_RA s c .boolean := by
  obtain ⟨c, k, comp, h1, h2, h3⟩ := Cond.arrayClass_spec h
  exact ⟨c, fun n z => ⟨fun k h => (by cases h), k, h2, comp, h3⟩, h1⟩
theorem k_long {s : State} {args : Array Value} (h : (Cond.arrayClass .long).before args s = true) : ∃ c, ArrOfT s c .long ∧ va_RA s c .long := by
  obtain ⟨c, k, comp, h1, h2, h3⟩ := Cond.arrayClass_spec h
  exact ⟨c, fun n z => ⟨fun k h => (by cases h), k, h2, comp, h3⟩, h1⟩
theorem k_obj {s : State} {args : Array Value} {C : String} (h : (Cond.arrayOver (.object C)).before args s = true) : ∃ c, ArrOfT s c (.object C) ∧ va_RA s c (.object C) := by
  obtain ⟨comp, c, k, h1, h2, h3, h4, h5⟩ := Cond.arrayOver_spec h
  exact ⟨c, fun n z => ⟨fun k h => (by cases h), k, h3, comp, h4⟩, k, comp, h3, h4, h1, h5⟩
theorem start_K {s : State} {args : Array Value} (hG : ∀ w ∈ GW, w.before args s = true) (hts : ∀ w ∈ lw_tbl, w.before args s = true) : ∃ (D : va_G) (cA : Nat → ClassId), va_K D vwCl (tyA cA) s := by
  obtain ⟨c0, i0, n0⟩ := u_known (C := RX0) (T := TX0) (N := 13) (n := 13) hG wU_X0 (hG _ wIb_X0)
  obtain ⟨c1, i1, n1⟩ := u_known (C := RX1) (T := TX1) (N := 3) (n := 3) hG wU_X1 (hG _ wIb_X1)
  obtain ⟨c2, i2, n2⟩ := u_known (C := RX2) (T := TX2) (N := 10) (n := 10) hG wU_X2 (hG _ wIb_X2)
  obtain ⟨c3, i3, n3⟩ := u_known (C := RX3) (T := TX3) (N := 4) (n := 4) hG wU_X3 (hG _ wIb_X3)
  obtain ⟨c4, i4, n4⟩ := u_known (C := RX4) (T := TX4) (N := 4) (n := 4) hG wU_X4 (hG _ wIb_X4)
  obtain ⟨c5, i5, n5⟩ := u_known (C := RX5) (T := TX5) (N := 7) (n := 7) hG wU_X5 (hG _ wIb_X5)
  obtain ⟨a0, p0⟩ := k_int (hG _ wA__int)
  obtain ⟨a1, p1⟩ := k_bool (hG _ wA__boolean)
  obtain ⟨a2, p2⟩ := k_obj (hts _ wAO_Book)
  refine ⟨(fun k => match k with | 0 => c0 | 1 => c1 | 2 => c2 | 3 => c3 | 4 => c4 | _ => c5, fun k => match k with | 0 => i0 | 1 => i1 | 2 => i2 | 3 => i3 | 4 => i4 | _ => i5), fun k => match k with | 0 => a0 | 1 => a1 | _ => a2, fun k q hq => ?_, fun k q hq => ?_⟩
  · match k, hq with
    | 0, hq => cases hq; exact n0
    | 1, hq => cases hq; exact n1
    | 2, hq => cases hq; exact n2
    | 3, hq => cases hq; exact n3
    | 4, hq => cases hq; exact n4
    | 5, hq => cases hq; exact n5
    | k + 6, hq => cases hq
  · match k, hq with
    | 0, hq => cases hq; exact p0
    | 1, hq => cases hq; exact p1
    | 2, hq => cases hq; exact p2
    | k + 3, hq => cases hq
theorem NW_of {s : State} {args : Array Value} (hts : ∀ w ∈ lw_tbl, w.before args s = true) : NW s := by
  intro w hw
  obtain ⟨h1, h2⟩ := List.mem_filter.mp hw
  have h := hts w h1
  cases w <;> first | exact va_Nw.of rfl h | (simp at h2; done) | (rename_i t; cases t <;> first | exact va_AO.of h | (simp at h2; done))
theorem XV_of {s : State} {args : Array Value} (hG : ∀ w ∈ GW, w.before args s = true) (hts : ∀ w ∈ lw_tbl, w.before args s = true) (hn : ∀ C ∈ exL, ∀ T ∈ exL, C ≠ T → (Cond.not (.castable C T)).before args s = true) : XV s := by
  refine ⟨fun q hq => ?_, fun w hw => ?_, fun C hC T hT hne => va_Nc.of (hn C hC T hT hne)⟩
  · have h1 := hts _ (strsX_in q hq)
    obtain ⟨cC, kC, hfc, -, -⟩ := Cond.instantiable_spec (hG _ wIb_X5)
    obtain ⟨-, -, -, a, -, -, -, -, -, hev⟩ := Cond.stringRef_spec hfc h1
    exact ⟨a, vk_R.of h1 hev⟩
  · obtain ⟨h1, h2⟩ := List.mem_filter.mp hw
    have h := hts w h1
    cases w <;> first | exact va_Nw.of rfl h | (simp at h2; done)
set_option maxHeartbeats 4000000 in
set_option maxRecDepth 100000 in
theorem law_loop2 {K : KT} (C : Cx K cL_law 19 RL (some .boolean) room_1) (XK : WX K) (hfl : (kl K).stackTraces = false) {b0 Ls : Nat} {xs : Nat → Int32} (hX : va_X b0 Ls xs (ks K) (ks K).heap) (hbl : b0 < (ks K).heap.size) (hbA : ¬ kA K b0) (hL : Ls ≤ 260) {A : AT} (hend : ∀ {ce sl : Nat} {lv : List (Option Value)} {ws : List va_W}, ce ≤ 600104 → sl ≤ 7301314 → J K ce sl ws lv 867 [.int (iI 1)]) : ∀ (fuel : Nat) (c : Int) (L : LT) (S : Int → Int) (u : SC) (k : Int), 0 ≤ k ∧ k ≤ 14 → LY k c L S → (14 - k).toNat < fuel → J K (200 + 11 * k.toNat) (9000 + 345 * k.toNat) [wB (kC K) A c L S u] [some (.ref b0), some (.ref A.1), some (.int (iI 1)), some (.int (iI k)), none, none, none, none, none, none, none, none, none, none, none, none, none, none, none] 135 [] := by
  intro fuel
  induction fuel with
  | zero => intro c L S u k hk hrel hf; exact absurd hf (Nat.not_lt_zero _)
  | succ fuel ih =>
    intro c L S u k hk hrel hf
    by_cases h : k < 14
    · refine c_law_body C XK hfl hX hbl hbA hL (by omega) (by omega) ⟨hk.1, by omega⟩ hrel (fun c2 L2 S2 u2 h2 => ?_)
      refine c_law_tail C XK hfl hX hbl hbA hL (by omega) (by omega) ⟨hk.1, by omega⟩ h2 (fun u3 => ?_)
      exact j_widen (ce' := 200 + 11 * (k + 1).toNat) (sl' := 9000 + 345 * (k + 1).toNat) (by omega) (by omega) (ih c2 L2 S2 u3 (k + 1) (by omega) h2 (by omega))
    · have hk14 : k = 14 := by omega
      subst hk14
      refine j_iload_n C dL_law_135 rfl ?_
      refine j_bipush C dL_law_136 (by decide) ?_
      refine j_icmp_ge (tgt := 674) C dL_law_138 (by decide) (by omega) (by omega) (by omega) (by omega) (fun _ => ?_) (fun q => absurd q (by omega))
      exact j_lle (lv' := [_, _, _, none, none, none, none, none, none, none, none, none, none, none, none, none, none, none, none]) ⟨Or.inr rfl, ⟨Or.inr rfl, ⟨Or.inr rfl, ⟨Or.inl rfl, ⟨Or.inl rfl, ⟨Or.inl rfl, ⟨Or.inl rfl, ⟨Or.inl rfl, ⟨Or.inl rfl, ⟨Or.inl rfl, ⟨Or.inl rfl, ⟨Or.inl rfl, ⟨Or.inl rfl, ⟨Or.inl rfl, ⟨Or.inl rfl, ⟨Or.inl rfl, ⟨Or.inl rfl, ⟨Or.inl rfl, ⟨Or.inl rfl, trivial⟩⟩⟩⟩⟩⟩⟩⟩⟩⟩⟩⟩⟩⟩⟩⟩⟩⟩⟩ (c_law_end C XK hfl hX hbl hbA hL hend (by decide) (by decide) hrel)

set_option maxHeartbeats 4000000 in
set_option maxRecDepth 100000 in
theorem law_loop1 {K : KT} (C : Cx K cL_law 19 RL (some .boolean) room_1) (XK : WX K) (hfl : (kl K).stackTraces = false) {b0 Ls : Nat} {xs : Nat → Int32} (hX : va_X b0 Ls xs (ks K) (ks K).heap) (hbl : b0 < (ks K).heap.size) (hbA : ¬ kA K b0) (hL : Ls ≤ 260) {A : AT} (hend : ∀ {ce sl : Nat} {lv : List (Option Value)} {ws : List va_W}, ce ≤ 600104 → sl ≤ 7301314 → J K ce sl ws lv 867 [.int (iI 1)]) : ∀ (fuel : Nat) (c : Int) (L : LT) (S : Int → Int) (u : SC) (k : Int), 0 ≤ k ∧ k ≤ 7 → LF7 k c L S → (7 - k).toNat < fuel → J K (120 + 9 * k.toNat) (6000 + 333 * k.toNat) [wB (kC K) A c L S u] [some (.ref b0), some (.ref A.1), some (.int (iI 1)), some (.int (iI k)), none, none, none, none, none, none, none, none, none, none, none, none, none, none, none] 39 [] := by
  intro fuel
  induction fuel with
  | zero => intro c L S u k hk hrel hf; exact absurd hf (Nat.not_lt_zero _)
  | succ fuel ih =>
    intro c L S u k hk hrel hf
    by_cases h : k < 7
    · refine c_law_first7 C XK hfl hX hbl hbA hL (by omega) (by omega) ⟨hk.1, by omega⟩ hrel (fun c2 L2 S2 u2 h2 => ?_)
      exact j_widen (ce' := 120 + 9 * (k + 1).toNat) (sl' := 6000 + 333 * (k + 1).toNat) (by omega) (by omega) (ih c2 L2 S2 u2 (k + 1) (by omega) h2 (by omega))
    · have hk7 : k = 7 := by omega
      subst hk7
      refine j_iload_n C dL_law_39 rfl ?_
      refine j_bipush C dL_law_40 (by decide) ?_
      refine j_icmp_ge (tgt := 133) C dL_law_42 (by decide) (by omega) (by omega) (by omega) (by omega) (fun _ => ?_) (fun q => absurd q (by omega))
      refine j_iconst C dL_law_133 ?_
      refine j_istn_3 C dL_law_134 rfl ?_
      obtain ⟨g, hc, h0, h1, h4⟩ := hrel
      exact j_widen (ce' := 200 + 11 * (0 : Int).toNat) (sl' := 9000 + 345 * (0 : Int).toNat) (by decide) (by decide) (law_loop2 C XK hfl hX hbl hbA hL hend 15 c L S u 0 (by omega) ⟨g, hc, h0, by omega, by omega⟩ (by decide))

set_option maxHeartbeats 1600000 in
set_option maxRecDepth 100000 in
theorem c_law_begin {K : KT} (C : Cx K cL_law 19 RL (some .boolean) room_1) (XK : WX K) (hfl : (kl K).stackTraces = false) {b0 Ls : Nat} {xs : Nat → Int32} (hX : va_X b0 Ls xs (ks K) (ks K).heap) (hbl : b0 < (ks K).heap.size) (hbA : ¬ kA K b0) (hL : Ls ≤ 260) {A : AT} (hend : ∀ {ce sl : Nat} {lv : List (Option Value)} {ws : List va_W}, ce ≤ 600104 → sl ≤ 7301314 → J K ce sl ws lv 867 [.int (iI 1)]) {ce sl : Nat} (hce : ce ≤ 100) (hsl : sl ≤ 5000) {c : Int} {L : LT} {S : Int → Int} {u : SC} (hS : S = iniS) (hc0 : c = 0) (hL0 : L = []) : J K ce sl [wB (kC K) A c L S u] [some (.ref b0), some (.ref A.1), none, none, none, none, none, none, none, none, none, none, none, none, none, none, none, none, none] 8 [] := by
  have g : Good S := by rw [hS]; exact Good_ini
  have hI := g.1
  have hz := g.2.1
  have hc : HCL c L := by rw [hc0, hL0]; exact ⟨by decide, by decide, by decide, by decide⟩
  refine j_aload_n C dL_law_8 rfl ?_
  refine j_perm (pm_1_0 _) ?_
  refine j_callH C XK (As := [.ref _]) (c_L_holds _ _ _ _ _ _ _ _ (by first | assumption | omega) (by assumption)) 1 nf_L_holds.2 wL_L_108 wS_L_holds wIn_L wC_L_holds rfl rfl (by decide) dL_law_9 (Nat.le_of_ble_eq_true rfl) ⟨by dsimp only [rmN, room_1]; omega, by dsimp only [rmN, room_1]; omega⟩ (fun x9 u9 h9 => ?_)
  refine j_perm (pr_1_0 _) ?_
  have h9 : x9 = 1 := h9
  subst h9
  refine j_if_eq (tgt := 35) C dL_law_12 (by decide) (by omega) (by omega) (fun c12 => ?_) (fun c12 => ?_)
  · exfalso; omega
  · refine j_aload_n C dL_law_15 rfl ?_
    refine j_iconst C dL_law_16 ?_
    refine j_aload_n C dL_law_17 rfl ?_
    refine j_iconst C dL_law_18 ?_
    refine j_callC C hX hbl hbA (As := [.ref _, .int (iI _)]) (c_L_cell _ _ _ hL _ (by omega)) 2 nf_L_cell.2 wL_L_111 wS_L_cell wIn_L wC_L_cell rfl rfl (by decide) dL_law_19 (Nat.le_of_ble_eq_true rfl) ⟨by dsimp only [rmN, room_1]; omega, by dsimp only [rmN, room_1]; omega⟩ (fun x19 h19 => ?_)
    refine j_iconst C dL_law_22 ?_
    refine j_irem C dL_law_23 (by omega) (by omega) (by omega) (by omega) ?_
    refine j_iadd C dL_law_24 ?_
    refine j_perm (pm_1_0 _) ?_
    refine j_callW C XK (As := [.ref _, .int (iI _)]) (c_L_begins _ _ _ _ _ _ _ _ _ (by first | assumption | omega) (by exact hz) (by first | assumption | omega) (by omega)) 2 nf_L_begins.2 wL_L_115 wS_L_begins wIn_L wC_L_begins rfl rfl (by decide) dL_law_25 (Nat.le_of_ble_eq_true rfl) ⟨by dsimp only [rmN, room_1]; omega, by dsimp only [rmN, room_1]; omega⟩ (fun x25 u25 h25 => ?_)
    refine j_perm (pr_1_0 _) ?_
    have h25x : x25 = 0 := h25.1.trans (by rw [hS]; rfl)
    have hcl := (SVd_len hc h25.2).1
    have g2 := Good_rst (p := 3 + x19 % 4) hz (by omega)
    have e0 : rstP S (3 + x19 % 4) 0 = 3 + x19 % 4 := rfl
    have e1 : rstP S (3 + x19 % 4) 1 = 0 := rfl
    have e4 : rstP S (3 + x19 % 4) 4 = 0 := rfl
    have hnx : LF7 0 (cNx c) u25.1 (rstP S (3 + x19 % 4)) := ⟨g2, hcl, by omega, e1, e4⟩
    refine j_if_ne (tgt := 35) C dL_law_28 (by decide) (by omega) (by omega) (fun c28 => ?_) (fun c28 => ?_)
    · exfalso; omega
    · refine j_iconst C dL_law_31 ?_
      refine j_goto (tgt := 36) C dL_law_32 (by decide) ?_
      refine j_istn_2 C dL_law_36 rfl ?_
      refine j_iconst C dL_law_37 ?_
      refine j_istn_3 C dL_law_38 rfl ?_
      exact j_widen (ce' := 120 + 9 * (0 : Int).toNat) (sl' := 6000 + 333 * (0 : Int).toNat) (by first | omega | (dsimp only [rmN]; omega)) (by first | omega | (dsimp only [rmN]; omega)) (law_loop1 C XK hfl hX hbl hbA hL hend 8 _ _ _ _ 0 (by omega) hnx (by decide))
set_option maxHeartbeats 4000000 in
set_option maxRecDepth 100000 in
theorem c_law_go {K : KT} (C : Cx K cL_law 19 RL (some .boolean) room_1) (XK : WX K) (hfl : (kl K).stackTraces = false) {b0 Ls : Nat} {xs : Nat → Int32} (hX : va_X b0 Ls xs (ks K) (ks K).heap) (hbl : b0 < (ks K).heap.size) (hbA : ¬ kA K b0) (hL : Ls ≤ 260) (hend : ∀ {ce sl : Nat} {lv : List (Option Value)} {ws : List va_W}, ce ≤ 600104 → sl ≤ 7301314 → J K ce sl ws lv 867 [.int (iI 1)]) : J K 0 0 [] [some (.ref b0), none, none, none, none, none, none, none, none, none, none, none, none, none, none, none, none, none, none] 0 [] := by
  refine j_new C (ci := 5) (fs := [.null, .null, .null, .null, .null, .null, .int 0]) (T := TX5) (tt := tyX5) rfl wU_X5 tyX5_ok wK_L_9 wIb_X5 wIn_X5 (fun j hj => by rcases (show j = 0 ∨ j = 1 ∨ j = 2 ∨ j = 3 ∨ j = 4 ∨ j = 5 ∨ j = 6 by omega) with rfl | rfl | rfl | rfl | rfl | rfl | rfl <;> rfl) (by decide) dL_law_0 (fun q => ?_)
  refine j_dup C dL_law_3 rfl ?_
  refine j_perm (pm_1_0 _) ?_
  refine j_callIv C (As := []) (c_X5_init _ _ _ _ ) 0 nf_X5_init.2 rfl rfl wL_L_107 wI_X5_init wIn_X5 wC_X5_init rfl rfl (by decide) dL_law_4 (Nat.le_of_ble_eq_true rfl) ⟨by decide, by decide⟩ (fun u4 h4 => ?_)
  refine j_perm (ws' := [_, _, _, _, _, _, _, _, _, _, _, _, _, _, _, _, _, _]) (List.Perm.refl _) ?_
  refine j_astn_1 C dL_law_7 rfl ?_
  refine j_flat (ws' := [wB (kC K) (q, u4.2.2.2.2.2, u4.1, u4.2.1, u4.2.2.1.1, u4.2.2.2.1, u4.2.2.2.2.1, u4.2.2.1.2) 0 [] iniS ((fun _ => 0), (fun _ => 0), (fun _ => 0), (fun _ => 0), 0, (fun _ => 0), (fun _ => 0), (fun _ => 0), (fun _ => 0))]) (wB_open (cA := kC K) (A := (q, u4.2.2.2.2.2, u4.1, u4.2.1, u4.2.2.1.1, u4.2.2.2.1, u4.2.2.2.2.1, u4.2.2.1.2)) (c := 0) (L := []) (S := iniS) (u := ((fun _ => 0), (fun _ => 0), (fun _ => 0), (fun _ => 0), 0, (fun _ => 0), (fun _ => 0), (fun _ => 0), (fun _ => 0)))).symm ?_
  exact c_law_begin C XK hfl hX hbl hbA hL (A := (q, u4.2.2.2.2.2, u4.1, u4.2.1, u4.2.2.1.1, u4.2.2.2.1, u4.2.2.2.2.1, u4.2.2.1.2)) hend (by decide) (by decide) rfl rfl rfl
