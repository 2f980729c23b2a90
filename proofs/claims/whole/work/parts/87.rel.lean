/-! the relation of the class's state to the reference's -/
theorem payP_at {S : Int → Int} {i x j : Int} (h1 : j ≠ 7 + 8 * i) (h2 : j ≠ 11 + 8 * i) (h3 : j ≠ 2) : payP S i x j = S j := by
  unfold payP
  rw [st_n h3, st_n h2, st_n h1]
theorem payP_am {S : Int → Int} {i x : Int} : am (payP S i x) i = am S i - x := by
  show payP S i x (7 + 8 * i) = _
  unfold payP
  rw [st_n (by omega), st_n (by omega), st_s]
theorem payP_Inv {S : Int → Int} {i x : Int} (hI : Inv S) (h0 : 0 ≤ i) (hx : 1 ≤ x ∧ x ≤ am S i) : Inv (payP S i x) := by
  refine Inv_am hI ⟨payP_at (by omega) (by omega) (by omega), payP_at (by omega) (by omega) (by omega)⟩ (fun k hk => ⟨payP_at (by omega) (by omega) (by omega), payP_at (by omega) (by omega) (by omega), payP_at (by omega) (by omega) (by omega), payP_at (by omega) (by omega) (by omega)⟩) (fun j hj hj1 => ?_)
  have f := (hI.2.2 j hj hj1).2.2.2.1
  by_cases c : j = i
  · rw [c, payP_am]
    rw [c] at f
    omega
  · have e : am (payP S i x) j = am S j := payP_at (by omega) (by omega) (by omega)
    rw [e]
    omega
theorem payP_Inz {S : Int → Int} {i x : Int} (hz : Inz S) : Inz (payP S i x) := fun k hk h1 => by
  have e : di (payP S i x) k = di S k := payP_at (by omega) (by omega) (by omega)
  rw [e]
  exact hz k hk h1
theorem rstP_Inv {S : Int → Int} {p : Int} (hp : 2 ≤ p ∧ p ≤ 7) : Inv (rstP S p) := by
  have e0 : rstP S p 0 = p := by
    unfold rstP
    rw [st_n (by omega), st_n (by omega), st_n (by omega), st_n (by omega), st_s]
  have e1 : rstP S p 1 = 0 := by
    unfold rstP
    rw [st_n (by omega), st_n (by omega), st_n (by omega), st_s]
  refine ⟨by rw [e0]; exact hp, by rw [e1]; omega, fun k h0 h1 => ?_⟩
  rw [e1] at h1
  omega
theorem rstP_Inz {S : Int → Int} {p : Int} (hz : Inz S) : Inz (rstP S p) := fun k hk h1 => by
  have e : di (rstP S p) k = di S k := by
    show rstP S p (9 + 8 * k) = S (9 + 8 * k)
    unfold rstP
    rw [st_n (by omega), st_n (by omega), st_n (by omega), st_n (by omega), st_n (by omega)]
  rw [e]
  exact hz k hk h1
theorem Inz_di {S : Int → Int} {i w : Int} (hz : Inz S) (hw : w = 0 ∨ w = 1) : Inz (st S (9 + 8 * i) w) := fun k hk h1 => by
  by_cases c : k = i
  · have e : di (st S (9 + 8 * i) w) k = w := by
      rw [c]
      exact st_s _ _ _
    omega
  · have e : di (st S (9 + 8 * i) w) k = di S k := st_n (by omega)
    rw [e]
    exact hz k hk h1
theorem addP_Inz {S : Int → Int} {a e x y : Int} (hz : Inz S) (hn : 0 ≤ S 1) : Inz (addP S a e x y) := fun k hk h1 => by
  by_cases c : k = S 1
  · have e1 : di (addP S a e x y) k = 0 := by
      show addP S a e x y (9 + 8 * k) = 0
      unfold addP
      rw [st_n (by omega), c, st_s]
    omega
  · have e1 : di (addP S a e x y) k = di S k := by
      show addP S a e x y (9 + 8 * k) = S (9 + 8 * k)
      unfold addP
      rw [st_n (by omega), st_n (by omega), st_n (by omega), st_n (by omega), st_n (by omega), st_n (by omega), st_n (by omega), st_n (by omega), st_n (by omega)]
    rw [e1]
    exact hz k hk h1
theorem exO_Inz {S : Int → Int} {s f e x y i : Int} (hI : Inv S) (hz : Inz S) : Inz (exO S s f e x y i).2 := by
  have hn := hI.2.1
  unfold exO
  split
  · split
    · exact addP_Inz hz hn.1
    · exact hz
  · split
    · split
      · exact Inz_di hz (Or.inr rfl)
      · exact hz
    · split
      · split
        · exact Inz_di hz (Or.inl rfl)
        · exact hz
      · split
        · split
          · exact hz
          · rename_i q
            exact disB_Inz hI hz q
        · split
          · exact disA_Inz 49 S 0 hI hz
          · exact hz
theorem fK_0 (t : Int → Int) (n : Int) : ∀ (d : Nat) (a : Int), 0 ≤ fK t n d a
  | 0, _ => Int.le_refl _
  | d + 1, a => by
    rw [fK]
    split
    · have := fK_0 t n d (a + 1)
      omega
    · omega
theorem fE_ok {t : Int → Int} {n lo hi a : Int} {d : Nat} (ha : 0 ≤ a) (h : fE t n d lo hi a = -1) : lo ≤ fV t n d a 0 ∧ fV t n d a 0 ≤ hi := by
  have h0 := fK_0 t n d a
  unfold fE at h
  split at h
  · omega
  · split at h
    · omega
    · omega
theorem exT_ok {t : Int → Int} {n a : Int} (ha : 0 ≤ a) (h : ordE t n a = -1) : (pk t n a = 112 → (0 ≤ pk t n (a + 1) - 48 ∧ pk t n (a + 1) - 48 ≤ 6) ∧ (0 ≤ pk t n (a + 2) - 48 ∧ pk t n (a + 2) - 48 ≤ 6) ∧ (1 ≤ fV t n 4 (a + 4) 0 ∧ fV t n 4 (a + 4) 0 ≤ 1000) ∧ 1 ≤ pk t n (a + 4 + fK t n 4 (a + 4) + 1) - 48 ∧ pk t n (a + 4 + fK t n 4 (a + 4) + 1) - 48 ≤ 9) ∧ (pk t n a = 120 ∨ pk t n a = 121 → 0 ≤ fV t n 2 (a + 1) 0 ∧ fV t n 2 (a + 1) 0 ≤ 99) := by
  have h0 := fK_0 t n 4 (a + 4)
  have h1 := fK_0 t n 2 (a + 1)
  constructor
  · intro hp
    unfold ordE at h
    rw [if_pos hp] at h
    unfold prE at h
    split at h
    · omega
    · split at h
      · omega
      · split at h
        · omega
        · split at h
          · rename_i q
            exact absurd h q
          · rename_i q
            have hf := fE_ok (by omega) (Classical.byContradiction q)
            unfold prE2 at h
            split at h
            · omega
            · split at h
              · omega
              · exact ⟨by omega, by omega, hf, by omega⟩
  · intro hp
    unfold ordE at h
    rw [if_neg (by omega), if_pos hp] at h
    unfold nuE at h
    split at h
    · rename_i q
      exact absurd h q
    · rename_i q
      exact fE_ok (by omega) (Classical.byContradiction q)
theorem run_II {t : Int → Int} {n : Int} : ∀ (g : Nat) (a k : Int) (S : Int → Int), 0 ≤ a → Inv S → Inz S → Inv (run t n g a S k).2 ∧ Inz (run t n g a S k).2
  | 0, _, _, _, _, hI, hz => ⟨hI, hz⟩
  | g + 1, a, k, S, ha, hI, hz => by
    rw [run]
    split
    · exact ⟨hI, hz⟩
    · rename_i q
      have ho : ordE t n a = -1 := Classical.byContradiction fun w => q (Or.inr w)
      have hx := exT_ok ha ho
      have h1 : Inv (exT t n a S).2 := (exO_Inv hI hx.1 hx.2).1
      have h2 : Inz (exT t n a S).2 := exO_Inz hI hz
      split
      · exact ⟨h1, h2⟩
      · exact run_II g _ _ _ (by have := (ordE_bd t n a ha).2; omega) h1 h2
theorem cRes_II {t : Int → Int} {n : Int} {S : Int → Int} (hI : Inv S) (hz : Inz S) : Inv (cRes t n S).2 ∧ Inz (cRes t n S).2 := by
  unfold cRes
  split
  · exact ⟨hI, hz⟩
  · exact run_II 100 0 0 S (Int.le_refl _) hI hz
theorem cp_eq {T S : Int → Int} {j : Int} (h : j < 325) : cpS T S j = S j := if_pos h
theorem cp_Inv {T S : Int → Int} (hI : Inv S) : Inv (cpS T S) := by
  have hn := hI.2.1
  have e0 : cpS T S 0 = S 0 := cp_eq (by omega)
  have e1 : cpS T S 1 = S 1 := cp_eq (by omega)
  refine ⟨by rw [e0]; exact hI.1, by rw [e1]; exact hn, fun k h0 h1 => ?_⟩
  rw [e1] at h1
  have f := hI.2.2 k h0 h1
  have a1 : fr (cpS T S) k = fr S k := cp_eq (by omega)
  have a2 : tO (cpS T S) k = tO S k := cp_eq (by omega)
  have a3 : am (cpS T S) k = am S k := cp_eq (by omega)
  have a4 : ra (cpS T S) k = ra S k := cp_eq (by omega)
  have a5 : di (cpS T S) k = di S k := cp_eq (by omega)
  rw [a1, a2, a3, a4, a5, e0]
  exact f
theorem cp_Inz {T S : Int → Int} (hz : Inz S) : Inz (cpS T S) := fun k hk h1 => by
  have a5 : di (cpS T S) k = di S k := cp_eq (by omega)
  rw [a5]
  exact hz k hk h1
theorem cpT_Ag {T S M : Int → Int} (hI : Inv S) (h : Ag S M) : Ag (cpS T S) M := by
  have e1 : cpS T S 1 = S 1 := cp_eq (by omega)
  have hn := hI.2.1
  unfold Ag
  rw [e1]
  exact ⟨fun j a b => by rw [cp_eq (by omega)]; exact h.1 j a b, h.2⟩
theorem Ag_ext {S M N : Int → Int} (hI : Inv S) (h : Ag S M) (e : ∀ j : Int, 0 ≤ j → j < 325 → N j = M j) : Ag S N := by
  have hn := hI.2.1
  exact ⟨fun j a b => by rw [e j a (by omega)]; exact h.1 j a b, fun j a b => by rw [e j (by omega) b]; exact h.2 j a b⟩
def SVo (c : Int) (L : List ((Nat → Nat) × (Int → Int))) (V : Int → Int) : Prop := ∀ i : Nat, (i : Int) < c → ∀ p, L[i]? = some p → Inv p.2 ∧ Ag p.2 (fun j => V (325 * (i : Int) + j))
def SVb (c : Int) (L : List ((Nat → Nat) × (Int → Int))) : Prop := 0 ≤ c ∧ c ≤ 4 ∧ c ≤ (L.length : Int) ∧ L.length ≤ 4
theorem sv_nx {S M V V2 : Int → Int} {c c2 : Int} {L L2 : List ((Nat → Nat) × (Int → Int))} (hc : SVb c L) (hI : Inv S) (hz : Inz S) (hA : Ag S M) (hLz : ∀ p ∈ L, Inz p.2) (hV : SVo c L V) (h : SVC c L S c2 L2) (hS : SVP c M V V2) : SVb c2 L2 ∧ (∀ p ∈ L2, Inz p.2) ∧ SVo c2 L2 V2 := by
  obtain ⟨h1, h2, h3, h4⟩ := hc
  obtain ⟨rfl, k, T, rfl⟩ := h
  unfold svNx
  by_cases c4 : c < 4
  · rw [if_pos c4, if_pos c4]
    have hV2 := hS.1 c4
    subst hV2
    have hl : (L.take c.toNat).length = c.toNat := by rw [List.length_take]; omega
    refine ⟨⟨by omega, by omega, ?_, ?_⟩, ?_, ?_⟩
    · rw [List.length_append, hl, List.length_cons]; omega
    · rw [List.length_append, hl, List.length_cons, List.length_drop]; omega
    · intro p hp
      rcases List.mem_append.mp hp with q | q
      · exact hLz p (List.mem_of_mem_take q)
      · rcases List.mem_cons.mp q with q | q
        · subst q
          exact cp_Inz hz
        · exact hLz p (List.mem_of_mem_drop q)
    · intro i hi p hp
      by_cases e : i < c.toNat
      · rw [List.getElem?_append_left (by omega), List.getElem?_take, if_pos e] at hp
        have f := hV i (by omega) p hp
        refine ⟨f.1, Ag_ext f.1 f.2 (fun j a b => ?_)⟩
        show cpA M V 0 (325 * c) 325 (325 * (i : Int) + j) = V (325 * (i : Int) + j)
        unfold cpA
        exact if_neg (by omega)
      · rw [List.getElem?_append_right (by omega), hl, show i - c.toNat = 0 by omega] at hp
        have hp2 : p = (k, cpS T S) := (Option.some.inj hp).symm
        subst hp2
        refine ⟨cp_Inv hI, Ag_ext (cp_Inv hI) (cpT_Ag hI hA) (fun j a b => ?_)⟩
        show cpA M V 0 (325 * c) 325 (325 * (i : Int) + j) = M j
        unfold cpA
        rw [if_pos (by omega)]
        congr 1
        omega
  · rw [if_neg c4, if_neg c4]
    have hV2 := hS.2 (by omega)
    have hl : (L.drop 1).length = 3 := by rw [List.length_drop]; omega
    refine ⟨⟨by omega, by omega, ?_, ?_⟩, ?_, ?_⟩
    · rw [List.length_append, hl]; simp
    · rw [List.length_append, hl]; simp
    · intro p hp
      rcases List.mem_append.mp hp with q | q
      · exact hLz p (List.mem_of_mem_drop q)
      · have q2 : p = (k, cpS T S) := List.mem_singleton.mp q
        subst q2
        exact cp_Inz hz
    · intro i hi p hp
      by_cases e : i < 3
      · rw [List.getElem?_append_left (by omega), List.getElem?_drop] at hp
        have f := hV (1 + i) (by omega) p hp
        refine ⟨f.1, Ag_ext f.1 f.2 (fun j a b => ?_)⟩
        show V2 (325 * (i : Int) + j) = V (325 * ((1 + i : Nat) : Int) + j)
        rw [hV2 _ (by omega) (by omega), if_pos (by omega)]
        congr 1
        omega
      · rw [List.getElem?_append_right (by omega), hl, show i - 3 = 0 by omega] at hp
        have hp2 : p = (k, cpS T S) := (Option.some.inj hp).symm
        subst hp2
        refine ⟨cp_Inv hI, Ag_ext (cp_Inv hI) (cpT_Ag hI hA) (fun j a b => ?_)⟩
        show V2 (325 * (i : Int) + j) = M j
        rw [hV2 _ (by omega) (by omega), if_neg (by omega)]
        congr 1
        omega
/-- the class's world and the reference's: of one state, one text, the same saved states -/
def LRel (S : Int → Int) (c : Int) (L : List ((Nat → Nat) × (Int → Int))) (O t G M V : Int → Int) : Prop := (Inv S ∧ Inz S ∧ Ag S M) ∧ (SVb c L ∧ (∀ p ∈ L, Inz p.2) ∧ SVo c L V) ∧ (G 0 = c ∧ G 1 = O 0) ∧ TX t (O 0)
theorem rel_save {S S2 M M2 V V2 O t G G2 : Int → Int} {c c2 : Int} {L L2 : List ((Nat → Nat) × (Int → Int))} (h : LRel S c L O t G M V) (hs : SVC c L S c2 L2) (hI : Inv S2) (hz : Inz S2) (hA : Ag S2 M2) (hR : RV2 G M V G2 V2) : LRel S2 c2 L2 O t G2 M2 V2 := by
  obtain ⟨⟨a1, a2, a3⟩, ⟨b1, b2, b3⟩, ⟨g0, g1⟩, ht⟩ := h
  obtain ⟨r1, r2, r3, r4⟩ := hR
  rw [g0] at r1 r2
  exact ⟨⟨hI, hz, hA⟩, sv_nx b1 a1 a2 a3 b2 b3 hs r1, ⟨by rw [r2]; exact hs.1.symm, r3.trans g1⟩, ht⟩
theorem rel_keep {S M V O t G G2 : Int → Int} {c cd : Int} {L : List ((Nat → Nat) × (Int → Int))} (h : LRel S c L O t G M V) (hR : RU G G2 cd) : LRel S c L O t G2 M V := ⟨h.1, h.2.1, ⟨hR.1.trans h.2.2.1.1, hR.2.1.trans h.2.2.1.2⟩, h.2.2.2⟩
theorem rel_undo {S M V O t G G2 M2 : Int → Int} {c : Int} {L : List ((Nat → Nat) × (Int → Int))} {p : (Nat → Nat) × (Int → Int)} (h : LRel S c L O t G M V) (h0 : 0 < c) (hp : L[(c - 1).toNat]? = some p) (hG : G2 0 = G 0 - 1 ∧ G2 1 = G 1) (hM : M2 = cpA V M (325 * (G 0 - 1)) 0 325) : LRel (cpS S p.2) (c - 1) L O t G2 M2 V := by
  obtain ⟨⟨a1, a2, a3⟩, ⟨b1, b2, b3⟩, ⟨g0, g1⟩, ht⟩ := h
  have f := b3 (c - 1).toNat (by omega) p hp
  refine ⟨⟨cp_Inv f.1, cp_Inz (b2 p (List.mem_of_getElem? hp)), ?_⟩, ⟨⟨by have := b1.1; omega, by have := b1.2.1; omega, by have := b1.2.2.1; omega, b1.2.2.2⟩, b2, fun i hi => b3 i (by omega)⟩, ⟨by omega, hG.2.trans g1⟩, ht⟩
  rw [hM]
  refine cpT_Ag f.1 (Ag_ext f.1 f.2 (fun j a b => ?_))
  show cpA V M (325 * (G 0 - 1)) 0 325 j = V (325 * (((c - 1).toNat : Nat) : Int) + j)
  unfold cpA
  rw [if_pos (by omega)]
  congr 1
  omega
theorem rel_text {S M V O O2 t t2 G G2 : Int → Int} {c : Int} {L : List ((Nat → Nat) × (Int → Int))} (h : LRel S c L O t G M V) (hG : G2 0 = G 0 ∧ G2 1 = O2 0) (ht : TX t2 (O2 0)) : LRel S c L O2 t2 G2 M V := ⟨h.1, h.2.1, ⟨hG.1.trans h.2.2.1.1, hG.2⟩, ht⟩
theorem TX_app {t : Int → Int} {n w : Int} (h : TX t n) (hn : n < 100) (hw : 0 ≤ w ∧ w ≤ 127) : TX (st t n w) (n + 1) := by
  refine ⟨by have := h.1; omega, fun i a b => ?_⟩
  by_cases e : i = n
  · rw [e, st_s]; exact hw
  · rw [st_n e]; exact h.2 i a (by omega)
theorem rel_ini : LRel iniS 0 [] (fun _ => 0) (fun _ => 0) (fun _ => 0) (st (fun _ => 0) 0 4) (fun _ => 0) := by
  have i0 : iniS 0 = 4 := rfl
  have i1 : iniS 1 = 0 := rfl
  refine ⟨⟨⟨by rw [i0]; omega, by rw [i1]; omega, fun k h0 h1 => ?_⟩, fun k hk _ => Or.inl (if_neg (by omega)), ?_⟩, ⟨⟨by omega, by omega, by simp, by simp⟩, fun p hp => absurd hp List.not_mem_nil, fun i hi => ?_⟩, ⟨rfl, rfl⟩, ⟨⟨Int.le_refl _, by decide⟩, fun i a b => ⟨Int.le_refl _, (by decide : (0 : Int) ≤ 127)⟩⟩⟩
  · rw [i1] at h1; omega
  · unfold Ag
    rw [i1]
    refine ⟨fun j a b => ?_, fun j a b => st_n (by omega)⟩
    unfold iniS st
    rfl
  · omega

