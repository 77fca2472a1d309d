/-! ArchiveBench$Archive: opening. -/
def fOf (w : ab_W) (j : Nat) (q : FO) : Prop := fO w j (nI q.2.1) (nI q.2.2.1) (nI q.2.2.2.1) (nI q.2.2.2.2.1) (nI q.2.2.2.2.2) ∧ nmR w j q.1
/-- the archive's parts: the files' array and cells, the image -/
def aW (w : ab_W) (im : List Nat) : Prop := (∃ g, w.1 43 = some (.inl (2, 7, .inr (.inr (.inr (.inr g))))) ∧ ∀ i, i < 7 → g i = some (44 + 3 * i)) ∧ (∀ i, i < 7 → fE w i) ∧ cR w 41 42 600 im
theorem fE.Xo {w w2 : ab_W} {i j : Nat} (h : fE w j) (hX : rX w w2 i) (hj : j ≠ i) : fE w2 j := by
  obtain ⟨⟨m, a, s, n, k, h1⟩, nm, h2⟩ := h
  exact ⟨⟨m, a, s, n, k, (hX.2 _ (by omega) (by omega)).trans h1⟩, nm, h2.X hX (by omega) (by omega) (by omega) (by omega)⟩
theorem fOf.Xo {w w2 : ab_W} {i j : Nat} {q : FO} (h : fOf w j q) (hX : rX w w2 i) (hj : j ≠ i) : fOf w2 j q := ⟨(hX.2 _ (by omega) (by omega)).trans h.1, cR.X h.2 hX (by omega) (by omega) (by omega) (by omega)⟩
theorem aW.X {w w2 : ab_W} {i : Nat} {im : List Nat} (h : aW w im) (hi : i < 7) (hX : rX w w2 i) (hE : fE w2 i) : aW w2 im := by
  obtain ⟨⟨g, h1, h2⟩, h3, h4⟩ := h
  refine ⟨⟨g, (hX.2 43 (by decide) (by omega)).trans h1, h2⟩, fun j hj => ?_, imR.X h4 hX⟩
  by_cases e : j = i
  · rw [e]; exact hE
  · exact (h3 j hj).Xo hX e
theorem aW.S {w w2 : ab_W} {im : List Nat} (h : aW w im) (hS : rS w w2 40 40) : aW w2 im := by
  obtain ⟨⟨g, h1, h2⟩, h3, h4⟩ := h
  exact ⟨⟨g, (hS.2 43 (by decide) (by decide)).trans h1, h2⟩, fun j hj => (h3 j hj).X hS, h4.S40 hS (by decide) (by decide)⟩
theorem rX.G {w w2 : ab_W} {i : Nat} (h : rX w w2 i) (hi : i < 7) : rG w w2 40 65 := ⟨h.1, fun j hj => h.2 j (by omega) (by omega)⟩
/-- opening a chain: n records at most, from place c on -/
def chF (im : List Nat) (li : Nat) : Nat → Nat → List FO → Rd (List FO)
  | 0, c, _ => .inl (-2, c)
  | k + 1, c, acc => if c < li then (if im.getD c 0 = 69 then .inr acc else if im.getD c 0 ≠ 67 then .inl (-4, c) else match rRH im li c with
    | .inl e => .inl e
    | .inr q => if acc.length = 6 then .inl (-2, c) else match pS im li (c + 8 + q.1.length) q.2.2.1 with
      | .inl e => .inl e
      | .inr x => chF im li k x (acc ++ [(q.1, q.2.1, c + 8 + q.1.length, q.2.2.1, q.2.2.2.1, q.2.2.2.2)])) else .inl (-3, li)
def ixF (im : List Nat) (li d : Nat) : Nat → Nat → List FO → Rd (List FO)
  | 0, c, acc => if c < li then .inl (-4, c) else .inr acc
  | k + 1, c, acc => match rEn im li d c with
    | .inl e => .inl e
    | .inr q => ixF im li d k (c + 8 + q.1.length) (acc ++ [q])
def opC (im : List Nat) : Rd (List FO) := chF im im.length 7 0 []
def opX (im : List Nat) : Rd (List FO) := if im.length < 7 then .inl (-3, im.length) else match tTl im (im.length - 6) with
  | .inl e => .inl e
  | .inr _ => ixF im (im.length - 6) (nm2 im (im.length - 6 + 2)) (im.getD (im.length - 6 + 1) 0) (nm2 im (im.length - 6 + 2)) []
/-- what opening leaves: failed at a place, or with files -/
def opF (w : ab_W) (im : List Nat) : Nat → ab_W → Prop := fun pl w2 => rG w w2 40 65 ∧ aF w2 pl ∧ aW w2 im
def opS (w : ab_W) (im : List Nat) : List FO → ab_W → Prop := fun acc w2 => rG w w2 40 65 ∧ (∃ cu li, aO w2 acc.length (-1) cu li) ∧ aW w2 im ∧ (∀ j q, acc[j]? = some q → fOf w2 j q) ∧ acc.length ≤ 6 ∧ ∀ q ∈ acc, foOK im.length q
theorem acc_snoc {w w2 : ab_W} {acc : List FO} {q : FO} (h : ∀ (j : Nat) (q : FO), acc[j]? = some q → fOf w j q) (hX : rX w w2 acc.length) (hq : fOf w2 acc.length q) : ∀ (j : Nat) (p : FO), (acc ++ [q])[j]? = some p → fOf w2 j p := by
  intro j p hp
  by_cases e : j < acc.length
  · rw [List.getElem?_append_left e] at hp
    exact (h j p hp).Xo hX (by omega)
  · rw [List.getElem?_append_right (by omega)] at hp
    have hj : j - acc.length < 1 := (List.getElem?_eq_some_iff.mp hp).1
    rw [show j - acc.length = 0 by omega] at hp
    cases hp
    rw [show j = acc.length by omega]
    exact hq
theorem acc_S {w w2 : ab_W} {acc : List FO} (h : ∀ (j : Nat) (q : FO), acc[j]? = some q → fOf w j q) (hf : ∀ j, j ≠ 40 → w2.1 j = w.1 j) : ∀ (j : Nat) (p : FO), acc[j]? = some p → fOf w2 j p := fun j p hp => ⟨(hf _ (by omega)).trans (h j p hp).1, cR.keep (h j p hp).2 (hf _ (by omega)) (hf _ (by omega))⟩
theorem aW.f {w w2 : ab_W} {im : List Nat} (h : aW w im) (hv : w2.2 = w.2) (hf : ∀ j, j ≠ 40 → w2.1 j = w.1 j) : aW w2 im := h.S ⟨hv, fun j h1 _ => hf j h1⟩
section AR
variable {G : ab_G} {w : ab_W} {o cu li : Nat} {en : Int32} {im : List Nat}
set_option maxRecDepth 100000 in
set_option maxHeartbeats 4000000 in
theorem l_Ar_openChain (hl : li = im.length) : ∀ (k c : Nat) (w1 : ab_W) (acc : List FO), acc.length + k = 7 → c ≤ 700 → rG w w1 40 65 → aO w1 acc.length (-1) c li → aW w1 im → (∀ (j : Nat) (q : FO), acc[j]? = some q → fOf w1 j q) → (∀ q ∈ acc, foOK im.length q) → ab_E G mm_Ar_openChain rr_Ar_openChain 14 [(0, .ref 40), (1, .int (nI acc.length))] [] w1 (rdP (chF im li k c acc) (fun a => a.length) (opF w im) (opS w im)) := by
  intro k
  induction k with
  | zero =>
    intro c w1 acc hk hc hG h40 hW hacc hok
    have h40o : w1.1 40 = _ := h40
    refine e_iload_n dd_Ar_openChain_14 rfl ?_
    refine e_bipush_n 6 dd_Ar_openChain_15 (by decide) ?_
    refine e_icmp_gt_n (tgt := 135) dd_Ar_openChain_17 (by decide) (by omega) (by omega) (fun _ => ?_) (fun h9 => absurd h9 (by omega))
    refine e_aload_n dd_Ar_openChain_135 rfl ?_
    refine e_bipush (v := -2) dd_Ar_openChain_136 (by decide) ?_
    refine e_aload_n dd_Ar_openChain_138 rfl ?_
    refine e_get dd_Ar_openChain_139 kf_Ar_41 h40o rfl ?_
    refine e_callVi (d1 := rr_Ar_stop) (As := [.int (-2), .int (nI c)]) (st := []) dd_Ar_openChain_142 km_Ar_58 h40o rfl (by decide) rfl (Nat.le_of_ble_eq_true rfl) (Nat.le_of_ble_eq_true rfl) rfl rfl (c_Ar_stopF h40 (-2)) (fun w2 k1 => ?_)
    exact e_iret dd_Ar_openChain_145 rfl (rdF_of ⟨hG.tr ((k1.1.X 0).G (by decide)), k1.2, hW.S k1.1⟩)
  | succ k ih =>
    intro c w1 acc hk hc hG h40 hW hacc hok
    have h40o : w1.1 40 = _ := h40
    obtain ⟨⟨g, h43, hg⟩, hE, him⟩ := id hW
    have h600 := him.2.1
    have hby := him.2.2.2.2.1
    have k0 := c_Ar_readByte (G := G) h40 him (by omega) (by omega)
    unfold rB at k0
    unfold chF
    by_cases c1 : c < li
    · rw [if_pos c1] at k0 ⊢
      have g1 := getD_lt hby (j := c) (by omega)
      refine e_iload_n dd_Ar_openChain_14 rfl ?_
      refine e_bipush_n 6 dd_Ar_openChain_15 (by decide) ?_
      refine e_icmp_gt_n (tgt := 135) dd_Ar_openChain_17 (by decide) (by omega) (by omega) (fun h9 => absurd h9 (by omega)) (fun _ => ?_)
      refine e_aload_n dd_Ar_openChain_20 rfl ?_
      refine e_get dd_Ar_openChain_21 kf_Ar_41 h40o rfl ?_
      refine e_istore_n (lv1 := [(0, .ref 40), (1, .int (nI acc.length)), (2, .int (nI c))]) dd_Ar_openChain_24 (by decide) rfl ?_
      refine e_aload_n dd_Ar_openChain_25 rfl ?_
      refine e_callVi (d1 := rr_Ar_readByte) (As := []) (st := []) dd_Ar_openChain_26 km_Ar_54 h40o rfl (by decide) rfl (Nat.le_of_ble_eq_true rfl) (Nat.le_of_ble_eq_true rfl) rfl rfl (k0) (fun w2 k1 => ?_)
      have h41 : w2.1 40 = _ := k1.2
      have hW2 := hW.S k1.1
      obtain ⟨⟨g, h43, hg⟩, hE2, him2⟩ := id hW2
      have hacc2 := acc_S hacc (fun j hj => k1.1.2 j hj hj)
      have hG2 := hG.tr ((k1.1.X 0).G (by decide))
      generalize hbe : im.getD c 0 = b at g1 ⊢
      refine e_istore_n (lv1 := [(0, .ref 40), (1, .int (nI acc.length)), (2, .int (nI c)), (3, .int (nI b))]) dd_Ar_openChain_29 (by decide) rfl ?_
      refine e_iload_n dd_Ar_openChain_30 rfl ?_
      refine e_if_ge_n (tgt := 36) dd_Ar_openChain_31 (by decide) (by omega) ?_
      refine e_iload_n dd_Ar_openChain_36 rfl ?_
      refine e_bipush_n 69 dd_Ar_openChain_37 (by decide) ?_
      refine e_icmp_ne_n (tgt := 47) dd_Ar_openChain_39 (by decide) (by omega) (by omega) (fun c39 => ?_) (fun c39 => ?_)
      · rw [if_neg c39]
        refine e_iload_n dd_Ar_openChain_47 rfl ?_
        refine e_bipush_n 67 dd_Ar_openChain_48 (by decide) ?_
        refine e_icmp_eq_n (tgt := 61) dd_Ar_openChain_50 (by decide) (by omega) (by omega) (fun c50 => ?_) (fun c50 => ?_)
        · rw [if_neg (fun h9 => h9 c50)]
          obtain ⟨⟨m0, a0, s0, n0, ck0, hf0⟩, nm0, hn0⟩ := hE2 acc.length (by omega)
          have k2 := c_Ar_readRecordHead (G := G) (b := c) (by omega) k1.2 him2 (by omega) c1 hf0 hn0
          refine e_aload_n dd_Ar_openChain_61 rfl ?_
          refine e_aload_n dd_Ar_openChain_62 rfl ?_
          refine e_get dd_Ar_openChain_63 kf_Ar_22 h41 rfl ?_
          refine e_iload_n dd_Ar_openChain_66 rfl ?_
          refine e_aald (v := .ref (44 + 3 * acc.length)) dd_Ar_openChain_67 h43 rfl rfl (by omega) (by decide) (by rw [hg _ (by omega)]; rfl) ?_
          refine e_iload_n dd_Ar_openChain_68 rfl ?_
          rcases h1 : rRH im li c with e | q
          · rw [rdP_F h1] at k2
            have he := rRH_F h1
            refine e_callVi (d1 := rr_Ar_readRecordHead) (As := [.ref (44 + 3 * acc.length), .int (nI c)]) (st := []) dd_Ar_openChain_69 km_Ar_62 h41 rfl (by decide) rfl (Nat.le_of_ble_eq_true rfl) (Nat.le_of_ble_eq_true rfl) rfl rfl (k2) (fun w3 k3 => ?_)
            refine e_istore (lv1 := [(0, .ref 40), (1, .int (nI acc.length)), (2, .int (nI c)), (3, .int (nI b)), (4, .int e.1)]) dd_Ar_openChain_72 (by decide) rfl ?_
            refine e_iload dd_Ar_openChain_74 rfl ?_
            refine e_if_ge (tgt := 82) dd_Ar_openChain_76 (by decide) (fun h9 => absurd h9 (Int32.not_le.mpr he)) (fun _ => ?_)
            refine e_iload dd_Ar_openChain_79 rfl ?_
            exact e_iret dd_Ar_openChain_81 rfl (rdF_of ⟨hG2.tr (k3.1.G (by omega)), k3.2.1, hW2.X (by omega) k3.1 k3.2.2⟩)
          · rw [rdP_S h1] at k2
            obtain ⟨q1, q2, q3, q4, q5, q6, q7, q8⟩ := rRH_S hby (by omega) h1
            refine e_callVi (d1 := rr_Ar_readRecordHead) (As := [.ref (44 + 3 * acc.length), .int (nI c)]) (st := []) dd_Ar_openChain_69 km_Ar_62 h41 rfl (by decide) rfl (Nat.le_of_ble_eq_true rfl) (Nat.le_of_ble_eq_true rfl) rfl rfl (k2) (fun w3 k3 => ?_)
            obtain ⟨nm, m, sl, n, ck⟩ := q
            dsimp only at k3 q1 q2 q3 q4 q5 q6 q7 q8 ⊢
            obtain ⟨x1, x2, x3, x4⟩ := k3
            have h44 : w3.1 40 = _ := x2
            have hW3 := hW2.X (by omega) x1 ⟨⟨_, _, _, _, _, x3⟩, nm, x4⟩
            obtain ⟨⟨g, h43, hg⟩, hE3, him3⟩ := id hW3
            have hG3 := hG2.tr (x1.G (by omega))
            have hsm : sumT im c (7 + nm.length) < 256 := by unfold sumT; omega
            refine e_istore (lv1 := [(0, .ref 40), (1, .int (nI acc.length)), (2, .int (nI c)), (3, .int (nI b)), (4, .int (nI (sumT im c (7 + nm.length))))]) dd_Ar_openChain_72 (by decide) rfl ?_
            refine e_iload dd_Ar_openChain_74 rfl ?_
            refine e_if_ge_n (tgt := 82) dd_Ar_openChain_76 (by decide) (by omega) ?_
            refine e_aload_n dd_Ar_openChain_82 rfl ?_
            refine e_get dd_Ar_openChain_83 kf_Ar_27 h44 rfl ?_
            refine e_bipush_n 6 dd_Ar_openChain_86 (by decide) ?_
            refine e_icmp_ne_n (tgt := 99) dd_Ar_openChain_88 (by decide) (by omega) (by omega) (fun c88 => ?_) (fun c88 => ?_)
            · rw [if_neg c88]
              have k4 := c_Ar_passSqueezed (G := G) x2 him3 (by omega) (by omega) q5 x3 x4
              refine e_aload_n dd_Ar_openChain_99 rfl ?_
              refine e_aload_n dd_Ar_openChain_100 rfl ?_
              refine e_get dd_Ar_openChain_101 kf_Ar_22 h44 rfl ?_
              refine e_iload_n dd_Ar_openChain_104 rfl ?_
              refine e_aald (v := .ref (44 + 3 * acc.length)) dd_Ar_openChain_105 h43 rfl rfl (by omega) (by decide) (by rw [hg _ (by omega)]; rfl) ?_
              rcases h2 : pS im li (c + 8 + nm.length) sl with e | x
              · rw [rdP_F h2] at k4
                have he := pS_F h2
                refine e_callVi (d1 := rr_Ar_passSqueezed) (As := [.ref (44 + 3 * acc.length)]) (st := []) dd_Ar_openChain_106 km_Ar_66 h44 rfl (by decide) rfl (Nat.le_of_ble_eq_true rfl) (Nat.le_of_ble_eq_true rfl) rfl rfl (k4) (fun w4 k5 => ?_)
                refine e_istore (lv1 := [(0, .ref 40), (1, .int (nI acc.length)), (2, .int (nI c)), (3, .int (nI b)), (4, .int e.1)]) dd_Ar_openChain_109 (by decide) rfl ?_
                refine e_iload dd_Ar_openChain_111 rfl ?_
                refine e_if_ge (tgt := 119) dd_Ar_openChain_113 (by decide) (fun h9 => absurd h9 (Int32.not_le.mpr he)) (fun _ => ?_)
                refine e_iload dd_Ar_openChain_116 rfl ?_
                exact e_iret dd_Ar_openChain_118 rfl (rdF_of ⟨hG3.tr (k5.1.G (by omega)), k5.2.1, hW3.X (by omega) k5.1 k5.2.2⟩)
              · rw [rdP_S h2] at k4
                obtain ⟨r1, r2, r3⟩ := pS_S h2
                refine e_callVi (d1 := rr_Ar_passSqueezed) (As := [.ref (44 + 3 * acc.length)]) (st := []) dd_Ar_openChain_106 km_Ar_66 h44 rfl (by decide) rfl (Nat.le_of_ble_eq_true rfl) (Nat.le_of_ble_eq_true rfl) rfl rfl (k4) (fun w4 k5 => ?_)
                obtain ⟨y1, y2, y3, y4⟩ := k5
                have h45 : w4.1 40 = _ := y2
                have hW4 := hW3.X (by omega) y1 ⟨⟨_, _, _, _, _, y3⟩, nm, y4⟩
                have hG4 := hG3.tr (y1.G (by omega))
                refine e_istore (lv1 := [(0, .ref 40), (1, .int (nI acc.length)), (2, .int (nI c)), (3, .int (nI b)), (4, .int (nI 0))]) dd_Ar_openChain_109 (by decide) rfl ?_
                refine e_iload dd_Ar_openChain_111 rfl ?_
                refine e_if_ge_n (tgt := 119) dd_Ar_openChain_113 (by decide) (by omega) ?_
                refine e_aload_n dd_Ar_openChain_119 rfl ?_
                refine e_dup dd_Ar_openChain_120 rfl ?_
                refine e_get dd_Ar_openChain_121 kf_Ar_27 h45 rfl ?_
                refine e_iconst_n 1 dd_Ar_openChain_124 (by decide) ?_
                refine e_iadd_n dd_Ar_openChain_125 ?_
                refine e_putx (fs1 := [.ref 41, .ref 43, .int (nI (acc.length + 1)), .int (-1), .int (nI x), .int (nI li)]) dd_Ar_openChain_126 kf_Ar_27 h45 (Nat.le_of_ble_eq_true rfl) rfl rfl rfl (fun w21 h22n h22v h22f => ?_)
                refine e_iinc_n (a := acc.length) (k := 1) (lv1 := [(0, .ref 40), (1, .int (nI (acc.length + 1))), (2, .int (nI c)), (3, .int (nI b)), (4, .int (nI 0))]) dd_Ar_openChain_129 rfl (by decide) (by decide) rfl ?_
                refine e_goto (tgt := 14) dd_Ar_openChain_132 (by decide) ?_
                refine e_rm (lv1 := [(0, .ref 40), (1, .int (nI (acc.length + 1))), (3, .int (nI b)), (4, .int (nI 0))]) 2 rfl ?_
                refine e_rm (lv1 := [(0, .ref 40), (1, .int (nI (acc.length + 1))), (4, .int (nI 0))]) 3 rfl ?_
                refine e_rm (lv1 := [(0, .ref 40), (1, .int (nI (acc.length + 1)))]) 4 rfl ?_
                have hf : ∀ j, j ≠ 40 → w21.1 j = w4.1 j := h22f
                have L := ih x w21 (acc ++ [(nm, m, c + 8 + nm.length, sl, n, ck)]) (by simp; omega) (by omega) (hG4.tr ⟨h22n, fun j hj => hf j (by omega)⟩) (by rw [List.length_append]; exact h22v) (hW4.f h22n hf) (acc_S (acc_snoc hacc2 (x1.tr y1) ⟨y3, y4⟩) hf) (fun q hq => by
                  rcases List.mem_append.mp hq with h9 | h9
                  · exact hok q h9
                  · rw [List.mem_singleton.mp h9]
                    exact ⟨q1, q2, q3, q4, by dsimp only; omega, q6, q7, q5⟩)
                rw [List.length_append] at L
                exact L
            · rw [if_pos c88]
              refine e_aload_n dd_Ar_openChain_91 rfl ?_
              refine e_bipush (v := -2) dd_Ar_openChain_92 (by decide) ?_
              refine e_iload_n dd_Ar_openChain_94 rfl ?_
              refine e_callVi (d1 := rr_Ar_stop) (As := [.int (-2), .int (nI c)]) (st := []) dd_Ar_openChain_95 km_Ar_58 h44 rfl (by decide) rfl (Nat.le_of_ble_eq_true rfl) (Nat.le_of_ble_eq_true rfl) rfl rfl (c_Ar_stopF x2 (-2)) (fun w4 k5 => ?_)
              exact e_iret dd_Ar_openChain_98 rfl (rdF_of ⟨hG3.tr ((k5.1.X 0).G (by decide)), k5.2, hW3.S k5.1⟩)
        · rw [if_pos c50]
          refine e_aload_n dd_Ar_openChain_53 rfl ?_
          refine e_bipush (v := -4) dd_Ar_openChain_54 (by decide) ?_
          refine e_iload_n dd_Ar_openChain_56 rfl ?_
          refine e_callVi (d1 := rr_Ar_stop) (As := [.int (-4), .int (nI c)]) (st := []) dd_Ar_openChain_57 km_Ar_58 h41 rfl (by decide) rfl (Nat.le_of_ble_eq_true rfl) (Nat.le_of_ble_eq_true rfl) rfl rfl (c_Ar_stopF k1.2 (-4)) (fun w4 k5 => ?_)
          exact e_iret dd_Ar_openChain_60 rfl (rdF_of ⟨hG2.tr ((k5.1.X 0).G (by decide)), k5.2, hW2.S k5.1⟩)
      · rw [if_pos c39]
        refine e_aload_n dd_Ar_openChain_42 rfl ?_
        refine e_get dd_Ar_openChain_43 kf_Ar_27 h41 rfl ?_
        exact e_iret dd_Ar_openChain_46 rfl (rdS_of ⟨hG2, ⟨_, _, k1.2⟩, hW2, hacc2, by omega, hok⟩)
    · rw [if_neg c1] at k0 ⊢
      refine e_iload_n dd_Ar_openChain_14 rfl ?_
      refine e_bipush_n 6 dd_Ar_openChain_15 (by decide) ?_
      refine e_icmp_gt_n (tgt := 135) dd_Ar_openChain_17 (by decide) (by omega) (by omega) (fun h9 => absurd h9 (by omega)) (fun _ => ?_)
      refine e_aload_n dd_Ar_openChain_20 rfl ?_
      refine e_get dd_Ar_openChain_21 kf_Ar_41 h40o rfl ?_
      refine e_istore_n (lv1 := [(0, .ref 40), (1, .int (nI acc.length)), (2, .int (nI c))]) dd_Ar_openChain_24 (by decide) rfl ?_
      refine e_aload_n dd_Ar_openChain_25 rfl ?_
      refine e_callVi (d1 := rr_Ar_readByte) (As := []) (st := []) dd_Ar_openChain_26 km_Ar_54 h40o rfl (by decide) rfl (Nat.le_of_ble_eq_true rfl) (Nat.le_of_ble_eq_true rfl) rfl rfl (k0) (fun w2 k1 => ?_)
      refine e_istore_n (lv1 := [(0, .ref 40), (1, .int (nI acc.length)), (2, .int (nI c)), (3, .int (-3))]) dd_Ar_openChain_29 (by decide) rfl ?_
      refine e_iload_n dd_Ar_openChain_30 rfl ?_
      refine e_if_ge (tgt := 36) dd_Ar_openChain_31 (by decide) (fun h9 => absurd h9 (by decide)) (fun _ => ?_)
      refine e_iload_n dd_Ar_openChain_34 rfl ?_
      exact e_iret dd_Ar_openChain_35 rfl (rdF_of ⟨hG.tr ((k1.1.X 0).G (by decide)), k1.2, hW.S k1.1⟩)
set_option maxRecDepth 100000 in
set_option maxHeartbeats 4000000 in
theorem c_Ar_openChain (h40 : aO w o en cu li) (hW : aW w im) : ab_E G mm_Ar_openChain rr_Ar_openChain 0 [(0, .ref 40)] [] w (rdP (opC im) (fun a => a.length) (opF w im) (opS w im)) := by
  have h40o : w.1 40 = _ := h40
  have hr := hW.2.2.obj
  refine e_aload_n dd_Ar_openChain_0 rfl ?_
  refine e_iconst_n 0 dd_Ar_openChain_1 (by decide) ?_
  refine e_aload_n dd_Ar_openChain_2 rfl ?_
  refine e_get dd_Ar_openChain_3 kf_Ar_14 h40o rfl ?_
  refine e_get dd_Ar_openChain_6 kf_Ar_47 hr rfl ?_
  refine e_callVv (d1 := rr_Ar_start) (As := [.int (nI 0), .int (nI im.length)]) (st := []) dd_Ar_openChain_9 km_Ar_50 h40o rfl (by decide) rfl (Nat.le_of_ble_eq_true rfl) (Nat.le_of_ble_eq_true rfl) rfl rfl (c_Ar_start h40) (fun w1 k1 => ?_)
  refine e_iconst_n 0 dd_Ar_openChain_12 (by decide) ?_
  refine e_istore_n (lv1 := [(0, .ref 40), (1, .int (nI 0))]) dd_Ar_openChain_13 (by decide) rfl ?_
  exact l_Ar_openChain rfl 7 0 w1 [] rfl (by decide) ((k1.1.X 0).G (by decide)) k1.2 (hW.S k1.1) (fun j q h9 => by simp at h9) (fun q h9 => by cases h9)
set_option maxRecDepth 100000 in
set_option maxHeartbeats 4000000 in
theorem l_Ar_openIndex {t d M : Nat} (ht : t + 6 = im.length) (hM : M ≤ 6) (hd : d ≤ t) : ∀ (k c : Nat) (w1 : ab_W) (acc : List FO) (z : Int32), acc.length + k = M → c ≤ 700 → (acc.length = 0 ∨ c ≤ t) → rG w w1 40 65 → aO w1 acc.length (-1) c t → aW w1 im → (∀ (j : Nat) (q : FO), acc[j]? = some q → fOf w1 j q) → (∀ q ∈ acc, foOK im.length q) → c ≤ t → ab_E G mm_Ar_openIndex rr_Ar_openIndex 56 [(0, .ref 40), (1, .int (nI t)), (2, .int z), (3, .int (nI M)), (4, .int (nI d)), (5, .int (nI acc.length))] [] w1 (rdP (ixF im t d k c acc) (fun a => a.length) (opF w im) (opS w im)) := by
  intro k
  induction k with
  | zero =>
    intro c w1 acc z hk hc hct hG h40 hW hacc hok hcl
    have h40o : w1.1 40 = _ := h40
    have h600 := hW.2.2.2.1
    unfold ixF
    refine e_iload dd_Ar_openIndex_56 rfl ?_
    refine e_iload_n dd_Ar_openIndex_58 rfl ?_
    refine e_icmp_ge_n (tgt := 105) dd_Ar_openIndex_59 (by decide) (by omega) (by omega) (fun _ => ?_) (fun h9 => absurd h9 (by omega))
    refine e_aload_n dd_Ar_openIndex_105 rfl ?_
    refine e_get dd_Ar_openIndex_106 kf_Ar_41 h40o rfl ?_
    refine e_iload_n dd_Ar_openIndex_109 rfl ?_
    refine e_icmp_ge_n (tgt := 126) dd_Ar_openIndex_110 (by decide) (by omega) (by omega) (fun c110 => ?_) (fun c110 => ?_)
    · rw [if_neg (by omega)]
      refine e_aload_n dd_Ar_openIndex_126 rfl ?_
      refine e_get dd_Ar_openIndex_127 kf_Ar_27 h40o rfl ?_
      exact e_iret dd_Ar_openIndex_130 rfl (rdS_of ⟨hG, ⟨_, _, h40⟩, hW, hacc, by omega, hok⟩)
    · rw [if_pos c110]
      refine e_aload_n dd_Ar_openIndex_113 rfl ?_
      refine e_bipush (v := -4) dd_Ar_openIndex_114 (by decide) ?_
      refine e_aload_n dd_Ar_openIndex_116 rfl ?_
      refine e_get dd_Ar_openIndex_117 kf_Ar_41 h40o rfl ?_
      refine e_callVi (d1 := rr_Ar_stop) (As := [.int (-4), .int (nI c)]) (st := []) dd_Ar_openIndex_120 km_Ar_58 h40o rfl (by decide) rfl (Nat.le_of_ble_eq_true rfl) (Nat.le_of_ble_eq_true rfl) rfl rfl (c_Ar_stopF h40 (-4)) (fun w2 k1 => ?_)
      refine e_goto (tgt := 130) dd_Ar_openIndex_123 (by decide) ?_
      exact e_iret dd_Ar_openIndex_130 rfl (rdF_of ⟨hG.tr ((k1.1.X 0).G (by decide)), k1.2, hW.S k1.1⟩)
  | succ k ih =>
    intro c w1 acc z hk hc hct hG h40 hW hacc hok hcl
    have h40o : w1.1 40 = _ := h40
    obtain ⟨⟨g, h43, hg⟩, hE, him⟩ := id hW
    have h600 := him.2.1
    have hby := him.2.2.2.2.1
    obtain ⟨⟨m0, a0, s0, n0, ck0, hf0⟩, nm0, hn0⟩ := hE acc.length (by omega)
    have k2 := c_Ar_readEntry (G := G) (d := d) (by omega) h40 him (by omega) hcl (by omega) hf0 hn0
    unfold ixF
    refine e_iload dd_Ar_openIndex_56 rfl ?_
    refine e_iload_n dd_Ar_openIndex_58 rfl ?_
    refine e_icmp_ge_n (tgt := 105) dd_Ar_openIndex_59 (by decide) (by omega) (by omega) (fun h9 => absurd h9 (by omega)) (fun _ => ?_)
    refine e_iload dd_Ar_openIndex_62 rfl ?_
    refine e_bipush_n 6 dd_Ar_openIndex_64 (by decide) ?_
    refine e_icmp_ge_n (tgt := 105) dd_Ar_openIndex_66 (by decide) (by omega) (by omega) (fun h9 => absurd h9 (by omega)) (fun _ => ?_)
    refine e_aload_n dd_Ar_openIndex_69 rfl ?_
    refine e_aload_n dd_Ar_openIndex_70 rfl ?_
    refine e_get dd_Ar_openIndex_71 kf_Ar_22 h40o rfl ?_
    refine e_iload dd_Ar_openIndex_74 rfl ?_
    refine e_aald (v := .ref (44 + 3 * acc.length)) dd_Ar_openIndex_76 h43 rfl rfl (by omega) (by decide) (by rw [hg _ (by omega)]; rfl) ?_
    refine e_iload dd_Ar_openIndex_77 rfl ?_
    rcases h1 : rEn im t d c with e | q
    · rw [rdP_F h1] at k2
      have he := rEn_F h1
      refine e_callVi (d1 := rr_Ar_readEntry) (As := [.ref (44 + 3 * acc.length), .int (nI d)]) (st := []) dd_Ar_openIndex_79 km_Ar_103 h40o rfl (by decide) rfl (Nat.le_of_ble_eq_true rfl) (Nat.le_of_ble_eq_true rfl) rfl rfl (k2) (fun w3 k3 => ?_)
      refine e_istore_n (lv1 := [(0, .ref 40), (1, .int (nI t)), (2, .int e.1), (3, .int (nI M)), (4, .int (nI d)), (5, .int (nI acc.length))]) dd_Ar_openIndex_82 (by decide) rfl ?_
      refine e_iload_n dd_Ar_openIndex_83 rfl ?_
      refine e_if_ge (tgt := 89) dd_Ar_openIndex_84 (by decide) (fun h9 => absurd h9 (Int32.not_le.mpr he)) (fun _ => ?_)
      refine e_iload_n dd_Ar_openIndex_87 rfl ?_
      exact e_iret dd_Ar_openIndex_88 rfl (rdF_of ⟨hG.tr (k3.1.G (by omega)), k3.2.1, hW.X (by omega) k3.1 k3.2.2⟩)
    · rw [rdP_S h1] at k2
      obtain ⟨q1, q2⟩ := rEn_S hby (by omega) (by omega) h1
      have hck : q.2.2.2.2.2 < 65536 := q1.2.2.2.2.2.2.1
      refine e_callVi (d1 := rr_Ar_readEntry) (As := [.ref (44 + 3 * acc.length), .int (nI d)]) (st := []) dd_Ar_openIndex_79 km_Ar_103 h40o rfl (by decide) rfl (Nat.le_of_ble_eq_true rfl) (Nat.le_of_ble_eq_true rfl) rfl rfl (k2) (fun w3 k3 => ?_)
      obtain ⟨x1, x2, x3, x4⟩ := k3
      have h44 : w3.1 40 = _ := x2
      have hW3 := hW.X (by omega) x1 ⟨⟨_, _, _, _, _, x3⟩, q.1, x4⟩
      have hG3 := hG.tr (x1.G (by omega))
      refine e_istore_n (lv1 := [(0, .ref 40), (1, .int (nI t)), (2, .int (nI q.2.2.2.2.2)), (3, .int (nI M)), (4, .int (nI d)), (5, .int (nI acc.length))]) dd_Ar_openIndex_82 (by decide) rfl ?_
      refine e_iload_n dd_Ar_openIndex_83 rfl ?_
      refine e_if_ge_n (tgt := 89) dd_Ar_openIndex_84 (by decide) (by omega) ?_
      refine e_aload_n dd_Ar_openIndex_89 rfl ?_
      refine e_dup dd_Ar_openIndex_90 rfl ?_
      refine e_get dd_Ar_openIndex_91 kf_Ar_27 h44 rfl ?_
      refine e_iconst_n 1 dd_Ar_openIndex_94 (by decide) ?_
      refine e_iadd_n dd_Ar_openIndex_95 ?_
      refine e_putx (fs1 := [.ref 41, .ref 43, .int (nI (acc.length + 1)), .int (-1), .int (nI (c + 8 + q.1.length)), .int (nI t)]) dd_Ar_openIndex_96 kf_Ar_27 h44 (Nat.le_of_ble_eq_true rfl) rfl rfl rfl (fun w21 h22n h22v h22f => ?_)
      refine e_iinc_n (a := acc.length) (k := 1) (lv1 := [(0, .ref 40), (1, .int (nI t)), (2, .int (nI q.2.2.2.2.2)), (3, .int (nI M)), (4, .int (nI d)), (5, .int (nI (acc.length + 1)))]) dd_Ar_openIndex_99 rfl (by decide) (by decide) rfl ?_
      refine e_goto (tgt := 56) dd_Ar_openIndex_102 (by decide) ?_
      have hf : ∀ j, j ≠ 40 → w21.1 j = w3.1 j := h22f
      have L := ih (c + 8 + q.1.length) w21 (acc ++ [q]) (nI q.2.2.2.2.2) (by simp; omega) (by omega) (Or.inr (by omega)) (hG3.tr ⟨h22n, fun j hj => hf j (by omega)⟩) (by rw [List.length_append]; exact h22v) (hW3.f h22n hf) (acc_S (acc_snoc hacc x1 ⟨x3, x4⟩) hf) (fun p hp => by
        rcases List.mem_append.mp hp with h9 | h9
        · exact hok p h9
        · rw [List.mem_singleton.mp h9]
          exact q1) q2
      rw [List.length_append] at L
      exact L
theorem tTl_F {t : Nat} {e : Int32 × Nat} (h : tTl im t = .inl e) : e.1 < 0 := by
  unfold tTl at h
  split at h
  · cases h; exact neg4
  · split at h
    · cases h; exact neg4
    · split at h
      · cases h; exact neg4
      · split at h
        · cases h; exact neg4
        · cases h
theorem tTl_S {t b : Nat} (h : tTl im t = .inr b) : b = 0 ∧ im.getD (t + 1) 0 ≤ 6 ∧ 1 ≤ nm2 im (t + 2) ∧ nm2 im (t + 2) ≤ t := by
  unfold tTl at h
  split at h
  · cases h
  · split at h
    · cases h
    · split at h
      · cases h
      · split at h
        · cases h
        · cases h
          omega
set_option maxRecDepth 100000 in
set_option maxHeartbeats 4000000 in
theorem c_Ar_openIndex (h40 : aO w o en cu li) (hW : aW w im) : ab_E G mm_Ar_openIndex rr_Ar_openIndex 0 [(0, .ref 40)] [] w (rdP (opX im) (fun a => a.length) (opF w im) (opS w im)) := by
  have h40o : w.1 40 = _ := h40
  have hr := hW.2.2.obj
  have h600 := hW.2.2.2.1
  have him := hW.2.2
  unfold opX
  by_cases c0 : im.length < 7
  · rw [if_pos c0]
    refine e_aload_n dd_Ar_openIndex_0 rfl ?_
    refine e_get dd_Ar_openIndex_1 kf_Ar_14 h40o rfl ?_
    refine e_get dd_Ar_openIndex_4 kf_Ar_47 hr rfl ?_
    refine e_bipush_n 6 dd_Ar_openIndex_7 (by decide) ?_
    refine e_isub dd_Ar_openIndex_9 ?_
    refine e_istore_n (lv1 := [(0, .ref 40), (1, .int ((nI im.length) - (nI 6)))]) dd_Ar_openIndex_10 (by decide) rfl ?_
    refine e_aload_n dd_Ar_openIndex_11 rfl ?_
    refine e_iload_n dd_Ar_openIndex_12 rfl ?_
    refine e_callVi (d1 := rr_Ar_testTail) (As := [.int ((nI im.length) - (nI 6))]) (st := []) dd_Ar_openIndex_13 km_Ar_97 h40o rfl (by decide) rfl (Nat.le_of_ble_eq_true rfl) (Nat.le_of_ble_eq_true rfl) rfl rfl (c_Ar_testTail_short h40 him c0) (fun w1 k1 => ?_)
    refine e_istore_n (lv1 := [(0, .ref 40), (1, .int ((nI im.length) - (nI 6))), (2, .int (-3))]) dd_Ar_openIndex_16 (by decide) rfl ?_
    refine e_iload_n dd_Ar_openIndex_17 rfl ?_
    refine e_if_ge (tgt := 23) dd_Ar_openIndex_18 (by decide) (fun h9 => absurd h9 (by decide)) (fun _ => ?_)
    refine e_iload_n dd_Ar_openIndex_21 rfl ?_
    exact e_iret dd_Ar_openIndex_22 rfl (rdF_of ⟨(k1.1.X 0).G (by decide), k1.2, hW.S k1.1⟩)
  · rw [if_neg c0]
    obtain ⟨t, ht⟩ : ∃ t, t + 6 = im.length := ⟨im.length - 6, by omega⟩
    rw [show im.length - 6 = t by omega]
    have k0 := c_Ar_testTail (G := G) h40 him ht (by omega)
    refine e_aload_n dd_Ar_openIndex_0 rfl ?_
    refine e_get dd_Ar_openIndex_1 kf_Ar_14 h40o rfl ?_
    refine e_get dd_Ar_openIndex_4 kf_Ar_47 hr rfl ?_
    refine e_bipush_n 6 dd_Ar_openIndex_7 (by decide) ?_
    refine e_isub_n dd_Ar_openIndex_9 (by omega) ?_
    refine e_top (y := nI t) (by congr 1; omega) ?_
    refine e_istore_n (lv1 := [(0, .ref 40), (1, .int (nI t))]) dd_Ar_openIndex_10 (by decide) rfl ?_
    refine e_aload_n dd_Ar_openIndex_11 rfl ?_
    refine e_iload_n dd_Ar_openIndex_12 rfl ?_
    rcases h1 : tTl im t with e | z
    · rw [rdP_F h1] at k0
      have he := tTl_F h1
      refine e_callVi (d1 := rr_Ar_testTail) (As := [.int (nI t)]) (st := []) dd_Ar_openIndex_13 km_Ar_97 h40o rfl (by decide) rfl (Nat.le_of_ble_eq_true rfl) (Nat.le_of_ble_eq_true rfl) rfl rfl (k0) (fun w1 k1 => ?_)
      refine e_istore_n (lv1 := [(0, .ref 40), (1, .int (nI t)), (2, .int e.1)]) dd_Ar_openIndex_16 (by decide) rfl ?_
      refine e_iload_n dd_Ar_openIndex_17 rfl ?_
      refine e_if_ge (tgt := 23) dd_Ar_openIndex_18 (by decide) (fun h9 => absurd h9 (Int32.not_le.mpr he)) (fun _ => ?_)
      refine e_iload_n dd_Ar_openIndex_21 rfl ?_
      exact e_iret dd_Ar_openIndex_22 rfl (rdF_of ⟨(k1.1.X 0).G (by decide), k1.2, hW.S k1.1⟩)
    · rw [rdP_S h1] at k0
      obtain ⟨rfl, b1, b2, b3⟩ := tTl_S h1
      refine e_callVi (d1 := rr_Ar_testTail) (As := [.int (nI t)]) (st := []) dd_Ar_openIndex_13 km_Ar_97 h40o rfl (by decide) rfl (Nat.le_of_ble_eq_true rfl) (Nat.le_of_ble_eq_true rfl) rfl rfl (k0) (fun w1 k1 => ?_)
      have k1 : w1 = w := k1
      subst k1
      dsimp only
      have kn2 := c_Row_numberAt (G := G) him (j := t + 2) (by omega)
      rw [show im.getD (t + 2) 0 * 256 + im.getD (t + 2 + 1) 0 = nm2 im (t + 2) from rfl] at kn2
      refine e_istore_n (lv1 := [(0, .ref 40), (1, .int (nI t)), (2, .int (nI 0))]) dd_Ar_openIndex_16 (by decide) rfl ?_
      refine e_iload_n dd_Ar_openIndex_17 rfl ?_
      refine e_if_ge_n (tgt := 23) dd_Ar_openIndex_18 (by decide) (by omega) ?_
      refine e_aload_n dd_Ar_openIndex_23 rfl ?_
      refine e_get dd_Ar_openIndex_24 kf_Ar_14 h40o rfl ?_
      refine e_iload_n dd_Ar_openIndex_27 rfl ?_
      refine e_iconst_n 1 dd_Ar_openIndex_28 (by decide) ?_
      refine e_iadd_n dd_Ar_openIndex_29 ?_
      refine e_callVp (d1 := rr_Row_at) (As := [.int (nI (t + 1))]) (st := []) dd_Ar_openIndex_30 km_Ar_94 hr rfl (by decide) rfl (Nat.le_of_ble_eq_true rfl) (Nat.le_of_ble_eq_true rfl) rfl rfl (c_Row_ati him (by omega)) ?_
      refine e_istore_n (lv1 := [(0, .ref 40), (1, .int (nI t)), (2, .int (nI 0)), (3, .int (nI (im.getD (t + 1) 0)))]) dd_Ar_openIndex_33 (by decide) rfl ?_
      refine e_aload_n dd_Ar_openIndex_34 rfl ?_
      refine e_get dd_Ar_openIndex_35 kf_Ar_14 h40o rfl ?_
      refine e_iload_n dd_Ar_openIndex_38 rfl ?_
      refine e_iconst_n 2 dd_Ar_openIndex_39 (by decide) ?_
      refine e_iadd_n dd_Ar_openIndex_40 ?_
      refine e_callVp (d1 := rr_Row_numberAt) (As := [.int (nI (t + 2))]) (st := []) dd_Ar_openIndex_41 km_Ar_100 hr rfl (by decide) rfl (Nat.le_of_ble_eq_true rfl) (Nat.le_of_ble_eq_true rfl) rfl rfl (kn2) ?_
      refine e_istore (lv1 := [(0, .ref 40), (1, .int (nI t)), (2, .int (nI 0)), (3, .int (nI (im.getD (t + 1) 0))), (4, .int (nI (nm2 im (t + 2))))]) dd_Ar_openIndex_44 (by decide) rfl ?_
      refine e_aload_n dd_Ar_openIndex_46 rfl ?_
      refine e_iload dd_Ar_openIndex_47 rfl ?_
      refine e_iload_n dd_Ar_openIndex_49 rfl ?_
      refine e_callVv (d1 := rr_Ar_start) (As := [.int (nI (nm2 im (t + 2))), .int (nI t)]) (st := []) dd_Ar_openIndex_50 km_Ar_50 h40o rfl (by decide) rfl (Nat.le_of_ble_eq_true rfl) (Nat.le_of_ble_eq_true rfl) rfl rfl (c_Ar_start h40) (fun w2 k2 => ?_)
      refine e_iconst_n 0 dd_Ar_openIndex_53 (by decide) ?_
      refine e_istore (lv1 := [(0, .ref 40), (1, .int (nI t)), (2, .int (nI 0)), (3, .int (nI (im.getD (t + 1) 0))), (4, .int (nI (nm2 im (t + 2)))), (5, .int (nI 0))]) dd_Ar_openIndex_54 (by decide) rfl ?_
      exact l_Ar_openIndex ht b1 b3 _ _ w2 [] _ (by simp) (by omega) (Or.inl rfl) ((k2.1.X 0).G (by decide)) k2.2 (hW.S k2.1) (fun j q h9 => by simp at h9) (fun q h9 => by cases h9) b3
/-- is there a file before the i-th with its name -/
def nbF (op : List FO) (nm : List Nat) : Nat → Nat → Bool
  | 0, _ => false
  | k + 1, j => match op[j]? with
    | some q => if q.1 = nm then true else nbF op nm k (j + 1)
    | none => nbF op nm k (j + 1)
set_option maxRecDepth 100000 in
set_option maxHeartbeats 4000000 in
theorem l_Ar_hasNameBefore {op : List FO} {f : Nat} {q : FO} (h40 : aO w o en cu li) (hW : aW w im) (hop : ∀ (j : Nat) (q : FO), op[j]? = some q → fOf w j q) (h6 : op.length ≤ 6) (hq : op[f]? = some q) : ∀ k j, j + k = f → ab_E G mm_Ar_hasNameBefore rr_Ar_hasNameBefore 2 [(0, .ref 40), (1, .int (nI f)), (2, .int (nI j))] [] w (pP (bI (nbF op q.1 k j)) w) := by
  have h40o : w.1 40 = _ := h40
  obtain ⟨⟨g, h43, hg⟩, hE, him⟩ := id hW
  have hfl : f < op.length := (List.getElem?_eq_some_iff.mp hq).1
  obtain ⟨hfq, hnq⟩ := hop f q hq
  have hfo : w.1 (44 + 3 * f) = _ := hfq
  intro k
  induction k with
  | zero =>
    intro j hj
    refine e_iload_n dd_Ar_hasNameBefore_2 rfl ?_
    refine e_iload_n dd_Ar_hasNameBefore_3 rfl ?_
    refine e_icmp_ge_n (tgt := 39) dd_Ar_hasNameBefore_4 (by decide) (by omega) (by omega) (fun _ => ?_) (fun h9 => absurd h9 (by omega))
    refine e_iconst_n 0 dd_Ar_hasNameBefore_39 (by decide) ?_
    exact e_zret dd_Ar_hasNameBefore_40 rfl (by decide) (pP_of rfl)
  | succ k ih =>
    intro j hj
    have hqj : op[j]? = some op[j] := List.getElem?_eq_getElem (by omega)
    generalize op[j] = qj at hqj
    obtain ⟨hfj, hnj⟩ := hop j qj hqj
    have hfjo : w.1 (44 + 3 * j) = _ := hfj
    have hrj := cR.obj hnj
    unfold nbF
    rw [hqj]
    dsimp only
    refine e_iload_n dd_Ar_hasNameBefore_2 rfl ?_
    refine e_iload_n dd_Ar_hasNameBefore_3 rfl ?_
    refine e_icmp_ge_n (tgt := 39) dd_Ar_hasNameBefore_4 (by decide) (by omega) (by omega) (fun h9 => absurd h9 (by omega)) (fun _ => ?_)
    refine e_aload_n dd_Ar_hasNameBefore_7 rfl ?_
    refine e_get dd_Ar_hasNameBefore_8 kf_Ar_22 h40o rfl ?_
    refine e_iload_n dd_Ar_hasNameBefore_11 rfl ?_
    refine e_aald (v := .ref (44 + 3 * j)) dd_Ar_hasNameBefore_12 h43 rfl rfl (by omega) (by decide) (by rw [hg _ (by omega)]; rfl) ?_
    refine e_get dd_Ar_hasNameBefore_13 kf_Ar_34 hfjo rfl ?_
    refine e_aload_n dd_Ar_hasNameBefore_16 rfl ?_
    refine e_get dd_Ar_hasNameBefore_17 kf_Ar_22 h40o rfl ?_
    refine e_iload_n dd_Ar_hasNameBefore_20 rfl ?_
    refine e_aald (v := .ref (44 + 3 * f)) dd_Ar_hasNameBefore_21 h43 rfl rfl (by omega) (by decide) (by rw [hg _ (by omega)]; rfl) ?_
    refine e_get dd_Ar_hasNameBefore_22 kf_Ar_34 hfo rfl ?_
    refine e_callVp (d1 := rr_Row_isSameAs) (As := [.ref (45 + 3 * f)]) (st := []) dd_Ar_hasNameBefore_25 km_Ar_37 hrj rfl (by decide) rfl (Nat.le_of_ble_eq_true rfl) (Nat.le_of_ble_eq_true rfl) rfl rfl (c_Row_isSameAs hnj hnq) ?_
    refine e_if_eq_b (tgt := 33) dd_Ar_hasNameBefore_28 (by decide) (fun c28 => ?_) (fun c28 => ?_)
    · refine e_iinc_n (a := j) (k := 1) (lv1 := [(0, .ref 40), (1, .int (nI f)), (2, .int (nI (j + 1)))]) dd_Ar_hasNameBefore_33 rfl (by decide) (by decide) rfl ?_
      refine e_goto (tgt := 2) dd_Ar_hasNameBefore_36 (by decide) ?_
      rw [if_neg (of_decide_eq_false c28)]
      exact ih (j + 1) (by omega)
    · refine e_iconst_n 1 dd_Ar_hasNameBefore_31 (by decide) ?_
      exact e_zret dd_Ar_hasNameBefore_32 rfl (by decide) (pP_of (by rw [if_pos (of_decide_eq_true c28)]; rfl))
set_option maxRecDepth 100000 in
set_option maxHeartbeats 4000000 in
theorem c_Ar_hasNameBefore {op : List FO} {f : Nat} {q : FO} (h40 : aO w o en cu li) (hW : aW w im) (hop : ∀ (j : Nat) (q : FO), op[j]? = some q → fOf w j q) (h6 : op.length ≤ 6) (hq : op[f]? = some q) : ab_E G mm_Ar_hasNameBefore rr_Ar_hasNameBefore 0 [(0, .ref 40), (1, .int (nI f))] [] w (pP (bI (nbF op q.1 f 0)) w) := by
  refine e_iconst_n 0 dd_Ar_hasNameBefore_0 (by decide) ?_
  refine e_istore_n (lv1 := [(0, .ref 40), (1, .int (nI f)), (2, .int (nI 0))]) dd_Ar_hasNameBefore_1 (by decide) rfl ?_
  exact l_Ar_hasNameBefore h40 hW hop h6 hq f 0 (by omega)
end AR
