/-! The reference: open; names. -/
def nv (nm : List Nat) (i : Nat) : Nat := if i < nm.length then nm.getD i 0 else 47
section MD
variable {G : ab_G} {w : ab_W} {nl dl fl ln md op pl tk rq : Int32} {xs ds : List Nat} {i o li : Nat} {g : Nat → Int32} {S : CS}
set_option maxRecDepth 100000 in
set_option maxHeartbeats 4000000 in
theorem l_Md_openEnd {nm by_ : List Nat} {fs : List FW} {im : List Nat} {op : List FO} {pl : Int32} {tk : List Nat} {w0 w1 w2 : ab_W} (h0 : mRep w0 (nm, by_, fs, im, op, pl, tk)) {x1 y : Int32} (o0 : Rd (List FO)) (ho : opn im = o0) (hF : ∀ e, o0 = .inl e → e.1 < 0) (hP : rdP o0 (fun _ => 0) (oF w1 (nI nm.length) (nI by_.length) (nI fs.length) (nI im.length) md (nI tk.length) rq) (oS w1 (nI nm.length) (nI by_.length) (nI fs.length) (nI im.length) md (nI tk.length) rq im.length) (some (.int y)) w2) (hv : w1.2 = w0.2) (hw : ∀ j, j ≠ 69 → w1.1 j = w0.1 j) : ab_E G mm_Md_open rr_Md_open 67 [(0, .ref 69), (1, .int x1)] [.int y] w2 (mEnd w0 (mOpen (nm, by_, fs, im, op, pl, tk))) := by
  obtain ⟨-, hnm, hby, hF0, him, ⟨ds, hds⟩, hP0, htk, ⟨xs, hxs⟩⟩ := h0
  rcases o0 with e | a
  · obtain ⟨hy, hS, ⟨o1, hO⟩, g, h79⟩ := hP
    cases hy
    have hlt := hF e rfl
    have h69 : w2.1 69 = _ := hO
    refine e_istore_n (lv1 := [(0, .ref 69), (1, .int x1), (2, .int e.1)]) dd_Md_open_67 (by decide) rfl ?_
    refine e_iload_n dd_Md_open_68 rfl ?_
    refine e_if_eq (tgt := 77) dd_Md_open_69 (by decide) (fun h9 => absurd h9 (neg_ne hlt)) (fun _ => ?_)
    refine e_aload_n dd_Md_open_72 rfl ?_
    refine e_iconst_n 0 dd_Md_open_73 (by decide) ?_
    refine e_putx (fs1 := [.int (nI nm.length), .ref 70, .int (nI by_.length), .ref 71, .int (nI fs.length), .ref 72, .ref 73, .ref 74, .ref 75, .ref 76, .int (nI im.length), .ref 77, .int md, .ref 78, .int (nI 0), .ref 79, .int (nI e.2), .int (nI tk.length), .ref 80, .int rq, .ref 81]) dd_Md_open_74 kf_Md_127 h69 (Nat.le_of_ble_eq_true rfl) rfl rfl rfl (fun w61 h62n h62v h62f => ?_)
    refine e_iload_n dd_Md_open_77 rfl ?_
    refine e_if_eq (tgt := 85) dd_Md_open_78 (by decide) (fun h9 => absurd h9 (neg_ne hlt)) (fun _ => ?_)
    refine e_iload_n dd_Md_open_81 rfl ?_
    refine e_goto (tgt := 89) dd_Md_open_82 (by decide) ?_
    have hf : ∀ j, j ≠ 69 → j ≠ 79 → w61.1 j = w0.1 j := fun j a b => (h62f j a).trans ((hS.2 j a b).trans (hw j a))
    exact e_iret dd_Md_open_89 rfl (mEnd_of (q := (e.1, (nm, by_, fs, im, [], nI e.2, tk))) (by simp only [mOpen]; rw [ho]) rfl ⟨⟨md, rq, h62v⟩, hnm.keep (hf 70 (by decide) (by decide)), hby.keep (hf 71 (by decide) (by decide)), hF0.keep (fun j a b => hf j (by omega) (by omega)), him.keep (hf 77 (by decide) (by decide)), ⟨ds, hds.keep (hf 78 (by decide) (by decide))⟩, ⟨Nat.zero_le _, (fun q hq => by cases hq), g, (h62f 79 (by decide)).trans h79, fun j q hq => by simp at hq⟩, htk.keep (hf 80 (by decide) (by decide)), ⟨xs, hxs.keep (hf 81 (by decide) (by decide))⟩⟩ (rG_of (h62n.trans (hS.1.trans hv)) hf (by decide) (by decide)))
  · obtain ⟨hy, hS, hO, hPa⟩ := hP
    cases hy
    have h69 : w2.1 69 = _ := hO
    have hf : ∀ j, j ≠ 69 → j ≠ 79 → w2.1 j = w0.1 j := fun j a b => (hS.2 j a b).trans (hw j a)
    refine e_istore_n (lv1 := [(0, .ref 69), (1, .int x1), (2, .int (nI 0))]) dd_Md_open_67 (by decide) rfl ?_
    refine e_iload_n dd_Md_open_68 rfl ?_
    refine e_if_eq_n (tgt := 77) dd_Md_open_69 (by decide) (by omega) (fun _ => ?_) (fun h9 => absurd h9 (by decide))
    refine e_iload_n dd_Md_open_77 rfl ?_
    refine e_if_eq_n (tgt := 85) dd_Md_open_78 (by decide) (by omega) (fun _ => ?_) (fun h9 => absurd h9 (by decide))
    refine e_aload_n dd_Md_open_85 rfl ?_
    refine e_get dd_Md_open_86 kf_Md_127 h69 rfl ?_
    exact e_iret dd_Md_open_89 rfl (mEnd_of (q := (nI a.length, (nm, by_, fs, im, a, -1, tk))) (by simp only [mOpen]; rw [ho]) rfl ⟨⟨md, rq, hO⟩, hnm.keep (hf 70 (by decide) (by decide)), hby.keep (hf 71 (by decide) (by decide)), hF0.keep (fun j a b => hf j (by omega) (by omega)), him.keep (hf 77 (by decide) (by decide)), ⟨ds, hds.keep (hf 78 (by decide) (by decide))⟩, hPa, htk.keep (hf 80 (by decide) (by decide)), ⟨xs, hxs.keep (hf 81 (by decide) (by decide))⟩⟩ (rG_of (hS.1.trans hv) hf (by decide) (by decide)))
set_option maxRecDepth 100000 in
set_option maxHeartbeats 4000000 in
theorem c_Md_open (h : mRep w S) : ab_E G mm_Md_open rr_Md_open 0 [(0, .ref 69)] [] w (mEnd w (mOpen S)) := by
  obtain ⟨nm, by_, fs, im, op, pl, tk⟩ := S
  have h0 := h
  obtain ⟨⟨md, rq, hO⟩, hnm, hby, hF, him, ⟨ds, hds⟩, hP, htk, ⟨xs, hxs⟩⟩ := h
  have h69 : w.1 69 = _ := hO
  have hnl := hnm.1
  have hbl := hby.1
  have hfl := hF.1
  have hil := him.1
  have hpl := hP.1
  have htl := htk.1
  obtain ⟨-, hb, f77, h77, hf77⟩ := id him
  refine e_aload_n dd_Md_open_0 rfl ?_
  refine e_iconst_n 0 dd_Md_open_1 (by decide) ?_
  refine e_putx (fs1 := [.int (nI nm.length), .ref 70, .int (nI by_.length), .ref 71, .int (nI fs.length), .ref 72, .ref 73, .ref 74, .ref 75, .ref 76, .int (nI im.length), .ref 77, .int md, .ref 78, .int (nI 0), .ref 79, .int pl, .int (nI tk.length), .ref 80, .int rq, .ref 81]) dd_Md_open_2 kf_Md_127 h69 (Nat.le_of_ble_eq_true rfl) rfl rfl rfl (fun w61 h62n h62v h62f => ?_)
  refine e_aload_n dd_Md_open_5 rfl ?_
  refine e_iconst (v := -1) dd_Md_open_6 (by decide) ?_
  refine e_putx (fs1 := [.int (nI nm.length), .ref 70, .int (nI by_.length), .ref 71, .int (nI fs.length), .ref 72, .ref 73, .ref 74, .ref 75, .ref 76, .int (nI im.length), .ref 77, .int md, .ref 78, .int (nI 0), .ref 79, .int (-1), .int (nI tk.length), .ref 80, .int rq, .ref 81]) dd_Md_open_7 kf_Md_40 h62v (Nat.le_of_ble_eq_true rfl) rfl rfl rfl (fun w63 h64n h64v h64f => ?_)
  have hw : ∀ j, j ≠ 69 → w63.1 j = w.1 j := fun j a => (h64f j a).trans (h62f j a)
  have hv : w63.2 = w.2 := h64n.trans h62n
  have him2 := him.keep (hw 77 (by decide))
  have hP2 : mP w63 [] im.length := hP.nil (hw 79 (by decide))
  have hO2 : mO w63 _ _ _ _ _ _ _ _ _ := h64v
  refine e_aload_n dd_Md_open_10 rfl ?_
  refine e_get dd_Md_open_11 kf_Md_124 h64v rfl ?_
  refine e_if_ne_n (tgt := 21) dd_Md_open_14 (by decide) (by omega) (fun c14 => ?_) (fun c14 => ?_)
  · have hv0 := hf77 0 c14
    have hvb := getD_lt hb c14
    have er := rb_in c14
    generalize im.getD 0 0 = v at hv0 hvb er
    refine e_aload_n dd_Md_open_21 rfl ?_
    refine e_get dd_Md_open_22 kf_Md_31 h64v rfl ?_
    refine e_iconst_n 0 dd_Md_open_25 (by decide) ?_
    refine e_iald dd_Md_open_26 ((h64f _ (by decide)).trans ((h62f _ (by decide)).trans h77)) rfl rfl (by omega) (by decide) ?_
    refine e_top (y := nI v) hv0 ?_
    refine e_istore_n (lv1 := [(0, .ref 69), (1, .int (nI v))]) dd_Md_open_27 (by decide) rfl ?_
    refine e_iload_n dd_Md_open_28 rfl ?_
    refine e_bipush_n 73 dd_Md_open_29 (by decide) ?_
    refine e_icmp_ne_n (tgt := 41) dd_Md_open_31 (by decide) (by omega) (by omega) (fun c31 => ?_) (fun c31 => ?_)
    · refine e_iload_n dd_Md_open_41 rfl ?_
      refine e_bipush_n 67 dd_Md_open_42 (by decide) ?_
      refine e_icmp_eq_n (tgt := 53) dd_Md_open_44 (by decide) (by omega) (by omega) (fun c44 => ?_) (fun c44 => ?_)
      · refine e_aload_n dd_Md_open_53 rfl ?_
        have eo : opn im = opC im := by rw [opn, er, if_pos (Or.inl (by rw [c44]))]
        have k0 := c_Md_openChain (G := G) hO2 him2 hP2
        rcases hN : opC im with e | a
        · rw [rdP_F hN] at k0
          refine e_callVi (d1 := rr_Md_openChain) (As := []) (st := []) dd_Md_open_54 km_Md_150 h64v rfl (by decide) rfl (Nat.le_of_ble_eq_true rfl) (Nat.le_of_ble_eq_true rfl) rfl rfl (k0) (fun v1 k1 => ?_)
          refine e_goto (tgt := 67) dd_Md_open_57 (by decide) ?_
          exact l_Md_openEnd (w1 := w63) h0 (.inl e) (eo.trans hN) (fun e1 he => by cases he; exact chF_F _ _ _ hN) ⟨rfl, k1⟩ hv hw
        · rw [rdP_S hN] at k0
          refine e_callVi (d1 := rr_Md_openChain) (As := []) (st := []) dd_Md_open_54 km_Md_150 h64v rfl (by decide) rfl (Nat.le_of_ble_eq_true rfl) (Nat.le_of_ble_eq_true rfl) rfl rfl (k0) (fun v1 k1 => ?_)
          refine e_goto (tgt := 67) dd_Md_open_57 (by decide) ?_
          exact l_Md_openEnd (w1 := w63) h0 (.inr a) (eo.trans hN) (fun e1 he => by cases he) ⟨rfl, k1⟩ hv hw
      · refine e_iload_n dd_Md_open_47 rfl ?_
        refine e_bipush_n 69 dd_Md_open_48 (by decide) ?_
        refine e_icmp_ne_n (tgt := 60) dd_Md_open_50 (by decide) (by omega) (by omega) (fun c50 => ?_) (fun c50 => ?_)
        · obtain ⟨g79, hg79⟩ : ∃ g, w63.1 79 = some (.inl (0, 84, .inl g)) := by obtain ⟨-, -, g, q, -⟩ := hP2; exact ⟨g, q⟩
          refine e_aload_n dd_Md_open_60 rfl ?_
          refine e_bipush (v := -4) dd_Md_open_61 (by decide) ?_
          refine e_iconst_n 0 dd_Md_open_63 (by decide) ?_
          refine e_callVi (d1 := rr_Md_stop) (As := [.int (-4), .int (nI 0)]) (st := []) dd_Md_open_64 km_Md_130 h64v rfl (by decide) rfl (Nat.le_of_ble_eq_true rfl) (Nat.le_of_ble_eq_true rfl) rfl rfl (c_Md_stop hO2 (-4) (nI 0)) (fun v1 k1 => ?_)
          exact l_Md_openEnd (w1 := w63) h0 (.inl (-4, 0)) (by rw [opn, er, if_neg (fun h9 => h9.elim (fun h9 => c44 ((nI_eq (by omega) (by decide)).mp h9)) (fun h9 => c50 ((nI_eq (by omega) (by decide)).mp h9))), if_neg (fun h9 => c31 ((nI_eq (by omega) (by decide)).mp h9))]) (fun e he => by cases he; exact neg4) ⟨rfl, ⟨k1.1.1, fun j a _ => k1.1.2 j a a⟩, ⟨_, k1.2⟩, _, (k1.1.2 79 (by decide) (by decide)).trans hg79⟩ hv hw
        · refine e_aload_n dd_Md_open_53 rfl ?_
          have eo : opn im = opC im := by rw [opn, er, if_pos (Or.inr (by rw [c50]))]
          have k0 := c_Md_openChain (G := G) hO2 him2 hP2
          rcases hN : opC im with e | a
          · rw [rdP_F hN] at k0
            refine e_callVi (d1 := rr_Md_openChain) (As := []) (st := []) dd_Md_open_54 km_Md_150 h64v rfl (by decide) rfl (Nat.le_of_ble_eq_true rfl) (Nat.le_of_ble_eq_true rfl) rfl rfl (k0) (fun v1 k1 => ?_)
            refine e_goto (tgt := 67) dd_Md_open_57 (by decide) ?_
            exact l_Md_openEnd (w1 := w63) h0 (.inl e) (eo.trans hN) (fun e1 he => by cases he; exact chF_F _ _ _ hN) ⟨rfl, k1⟩ hv hw
          · rw [rdP_S hN] at k0
            refine e_callVi (d1 := rr_Md_openChain) (As := []) (st := []) dd_Md_open_54 km_Md_150 h64v rfl (by decide) rfl (Nat.le_of_ble_eq_true rfl) (Nat.le_of_ble_eq_true rfl) rfl rfl (k0) (fun v1 k1 => ?_)
            refine e_goto (tgt := 67) dd_Md_open_57 (by decide) ?_
            exact l_Md_openEnd (w1 := w63) h0 (.inr a) (eo.trans hN) (fun e1 he => by cases he) ⟨rfl, k1⟩ hv hw
    · refine e_aload_n dd_Md_open_34 rfl ?_
      subst c31
      have eo : opn im = opX im := by rw [opn, er, if_neg (by decide), if_pos rfl]
      have k0 := c_Md_openIndex (G := G) hO2 him2 hP2
      rcases hN : opX im with e | a
      · rw [rdP_F hN] at k0
        refine e_callVi (d1 := rr_Md_openIndex) (As := []) (st := []) dd_Md_open_35 km_Md_146 h64v rfl (by decide) rfl (Nat.le_of_ble_eq_true rfl) (Nat.le_of_ble_eq_true rfl) rfl rfl (k0) (fun v1 k1 => ?_)
        refine e_goto (tgt := 67) dd_Md_open_38 (by decide) ?_
        exact l_Md_openEnd (w1 := w63) h0 (.inl e) (eo.trans hN) (fun e1 he => by cases he; exact opX_F hN) ⟨rfl, k1⟩ hv hw
      · rw [rdP_S hN] at k0
        refine e_callVi (d1 := rr_Md_openIndex) (As := []) (st := []) dd_Md_open_35 km_Md_146 h64v rfl (by decide) rfl (Nat.le_of_ble_eq_true rfl) (Nat.le_of_ble_eq_true rfl) rfl rfl (k0) (fun v1 k1 => ?_)
        refine e_goto (tgt := 67) dd_Md_open_38 (by decide) ?_
        exact l_Md_openEnd (w1 := w63) h0 (.inr a) (eo.trans hN) (fun e1 he => by cases he) ⟨rfl, k1⟩ hv hw
  · have er := rb_out (xs := im) (j := 0) (by omega)
    refine e_iconst_n 0 dd_Md_open_17 (by decide) ?_
    refine e_goto (tgt := 27) dd_Md_open_18 (by decide) ?_
    refine e_istore_n (lv1 := [(0, .ref 69), (1, .int (nI 0))]) dd_Md_open_27 (by decide) rfl ?_
    refine e_iload_n dd_Md_open_28 rfl ?_
    refine e_bipush_n 73 dd_Md_open_29 (by decide) ?_
    refine e_icmp_ne_n (tgt := 41) dd_Md_open_31 (by decide) (by omega) (by omega) (fun _ => ?_) (fun h9 => absurd h9 (by decide))
    refine e_iload_n dd_Md_open_41 rfl ?_
    refine e_bipush_n 67 dd_Md_open_42 (by decide) ?_
    refine e_icmp_eq_n (tgt := 53) dd_Md_open_44 (by decide) (by omega) (by omega) (fun h9 => absurd h9 (by decide)) (fun _ => ?_)
    refine e_iload_n dd_Md_open_47 rfl ?_
    refine e_bipush_n 69 dd_Md_open_48 (by decide) ?_
    refine e_icmp_ne_n (tgt := 60) dd_Md_open_50 (by decide) (by omega) (by omega) (fun _ => ?_) (fun h9 => absurd h9 (by decide))
    obtain ⟨g79, hg79⟩ : ∃ g, w63.1 79 = some (.inl (0, 84, .inl g)) := by obtain ⟨-, -, g, q, -⟩ := hP2; exact ⟨g, q⟩
    refine e_aload_n dd_Md_open_60 rfl ?_
    refine e_bipush (v := -4) dd_Md_open_61 (by decide) ?_
    refine e_iconst_n 0 dd_Md_open_63 (by decide) ?_
    refine e_callVi (d1 := rr_Md_stop) (As := [.int (-4), .int (nI 0)]) (st := []) dd_Md_open_64 km_Md_130 h64v rfl (by decide) rfl (Nat.le_of_ble_eq_true rfl) (Nat.le_of_ble_eq_true rfl) rfl rfl (c_Md_stop hO2 (-4) (nI 0)) (fun v1 k1 => ?_)
    exact l_Md_openEnd (w1 := w63) h0 (.inl (-4, 0)) (by rw [opn, er, if_neg (by decide), if_neg (by decide)]) (fun e he => by cases he; exact neg4) ⟨rfl, ⟨k1.1.1, fun j a _ => k1.1.2 j a a⟩, ⟨_, k1.2⟩, _, (k1.1.2 79 (by decide) (by decide)).trans hg79⟩ hv hw
theorem nv_lt {nm : List Nat} {i : Nat} (h : ∀ x ∈ nm, nch x = true) : nv nm i < 256 := by
  rw [nv]
  split
  · rename_i hi
    exact getD_lt (fun x hx => nch_lt (h x hx)) hi
  · decide
set_option maxRecDepth 100000 in
set_option maxHeartbeats 4000000 in
theorem c_Md_nameAt {j k : Nat} {q : FO} (h : mO w nl dl fl ln md op pl tk rq) (h79 : w.1 79 = some (.inl (0, 84, .inl g))) (hq : opI g j q) (hj : j < 6) (h8 : q.1.length ≤ 8) (hk : k < 100000) : ab_E G mm_Md_nameAt rr_Md_nameAt 0 [(0, .ref 69), (1, .int (nI j)), (2, .int (nI k))] [] w (pP (nI (nv q.1 k)) w) := by
  have h69 : w.1 69 = _ := h
  refine e_iload_n dd_Md_nameAt_0 rfl ?_
  refine e_aload_n dd_Md_nameAt_1 rfl ?_
  refine e_iload_n dd_Md_nameAt_2 rfl ?_
  refine e_iconst_n 1 dd_Md_nameAt_3 (by decide) ?_
  refine e_callVp (d1 := rr_Md_of) (As := [.int (nI j), .int (nI 1)]) (st := [.int (nI k)]) dd_Md_nameAt_4 km_Md_153 h69 rfl (by decide) rfl (Nat.le_of_ble_eq_true rfl) (Nat.le_of_ble_eq_true rfl) rfl rfl (c_Md_ofn (k := 1) h h79 (by omega) hq.2.1) ?_
  refine e_icmp_ge_n (tgt := 22) dd_Md_nameAt_7 (by decide) (by omega) (by omega) (fun c7 => ?_) (fun c7 => ?_)
  · refine e_bipush_n 47 dd_Md_nameAt_22 (by decide) ?_
    exact e_iret dd_Md_nameAt_24 rfl (pP_of (by rw [nv, if_neg (by omega)]))
  · refine e_aload_n dd_Md_nameAt_10 rfl ?_
    refine e_iload_n dd_Md_nameAt_11 rfl ?_
    refine e_bipush_n 6 dd_Md_nameAt_12 (by decide) ?_
    refine e_iload_n dd_Md_nameAt_14 rfl ?_
    refine e_iadd_n dd_Md_nameAt_15 ?_
    refine e_callVp (d1 := rr_Md_of) (As := [.int (nI j), .int (nI (6 + k))]) (st := []) dd_Md_nameAt_16 km_Md_153 h69 rfl (by decide) rfl (Nat.le_of_ble_eq_true rfl) (Nat.le_of_ble_eq_true rfl) rfl rfl (c_Md_ofn (k := 6 + k) (v := q.1.getD k 0) h h79 (by omega) (hq.2.2.2.2.2.2 k c7)) ?_
    refine e_goto (tgt := 24) dd_Md_nameAt_19 (by decide) ?_
    exact e_iret dd_Md_nameAt_24 rfl (pP_of (by rw [nv, if_pos c7]))
set_option maxRecDepth 100000 in
set_option maxHeartbeats 4000000 in
theorem l_Md_safe {j : Nat} {q : FO} (h : mO w nl dl fl ln md op pl tk rq) (h79 : w.1 79 = some (.inl (0, 84, .inl g))) (hq : opI g j q) (hj : j < 6) (h8 : q.1.length ≤ 8) (hnc : ∀ x ∈ q.1, nch x = true) : ∀ k i pt ds, i + k = q.1.length + 1 → pt ≤ i → ds ≤ i → ab_E G mm_Md_safe rr_Md_safe 7 [(0, .ref 69), (1, .int (nI j)), (2, .int (nI pt)), (3, .int (nI ds)), (4, .int (nI i))] [] w (pP (bI (sfF q.1 k i pt ds)) w) := by
  have h69 : w.1 69 = _ := h
  intro k
  induction k with
  | zero =>
    intro i pt ds hi hp hd
    refine e_iload dd_Md_safe_7 rfl ?_
    refine e_aload_n dd_Md_safe_9 rfl ?_
    refine e_iload_n dd_Md_safe_10 rfl ?_
    refine e_iconst_n 1 dd_Md_safe_11 (by decide) ?_
    refine e_callVp (d1 := rr_Md_of) (As := [.int (nI j), .int (nI 1)]) (st := [.int (nI i)]) dd_Md_safe_12 km_Md_153 h69 rfl (by decide) rfl (Nat.le_of_ble_eq_true rfl) (Nat.le_of_ble_eq_true rfl) rfl rfl (c_Md_ofn (k := 1) h h79 (by omega) hq.2.1) ?_
    refine e_icmp_gt_n (tgt := 97) dd_Md_safe_15 (by decide) (by omega) (by omega) (fun _ => ?_) (fun h9 => absurd h9 (by omega))
    refine e_iconst_n 1 dd_Md_safe_97 (by decide) ?_
    exact e_zret dd_Md_safe_98 rfl (by decide) (pP_of rfl)
  | succ k ih =>
    intro i pt ds hi hp hd
    have hvl := nv_lt (i := i) hnc
    have hiff : (i = q.1.length ∨ q.1.getD i 0 = 47) ↔ nv q.1 i = 47 := by
      rw [nv]
      by_cases hl : i < q.1.length
      · rw [if_pos hl]
        constructor
        · intro h9
          rcases h9 with h9 | h9
          · omega
          · exact h9
        · intro h9
          exact Or.inr h9
      · rw [if_neg hl]
        constructor
        · intro _; rfl
        · intro _; exact Or.inl (by omega)
    have hdot : nv q.1 i ≠ 47 → q.1.getD i 0 = nv q.1 i := fun h9 => by
      by_cases hl : i < q.1.length
      · rw [nv, if_pos hl]
      · exact absurd (show nv q.1 i = 47 by rw [nv, if_neg hl]) h9
    rw [sfF]
    simp only [hiff]
    have hna := c_Md_nameAt (G := G) (k := i) h h79 hq hj h8 (by omega)
    generalize nv q.1 i = v at *
    refine e_iload dd_Md_safe_7 rfl ?_
    refine e_aload_n dd_Md_safe_9 rfl ?_
    refine e_iload_n dd_Md_safe_10 rfl ?_
    refine e_iconst_n 1 dd_Md_safe_11 (by decide) ?_
    refine e_callVp (d1 := rr_Md_of) (As := [.int (nI j), .int (nI 1)]) (st := [.int (nI i)]) dd_Md_safe_12 km_Md_153 h69 rfl (by decide) rfl (Nat.le_of_ble_eq_true rfl) (Nat.le_of_ble_eq_true rfl) rfl rfl (c_Md_ofn (k := 1) h h79 (by omega) hq.2.1) ?_
    refine e_icmp_gt_n (tgt := 97) dd_Md_safe_15 (by decide) (by omega) (by omega) (fun h9 => absurd h9 (by omega)) (fun _ => ?_)
    refine e_aload_n dd_Md_safe_18 rfl ?_
    refine e_iload_n dd_Md_safe_19 rfl ?_
    refine e_iload dd_Md_safe_20 rfl ?_
    refine e_callVp (d1 := rr_Md_nameAt) (As := [.int (nI j), .int (nI i)]) (st := []) dd_Md_safe_22 km_Md_156 h69 rfl (by decide) rfl (Nat.le_of_ble_eq_true rfl) (Nat.le_of_ble_eq_true rfl) rfl rfl (hna) ?_
    refine e_istore (lv1 := [(0, .ref 69), (1, .int (nI j)), (2, .int (nI pt)), (3, .int (nI ds)), (4, .int (nI i)), (5, .int (nI v))]) dd_Md_safe_25 (by decide) rfl ?_
    refine e_iload dd_Md_safe_27 rfl ?_
    refine e_bipush_n 47 dd_Md_safe_29 (by decide) ?_
    refine e_icmp_ne_n (tgt := 50) dd_Md_safe_31 (by decide) (by omega) (by omega) (fun c31 => ?_) (fun c31 => ?_)
    · rw [if_neg c31]
      refine e_iload dd_Md_safe_50 rfl ?_
      refine e_bipush_n 47 dd_Md_safe_52 (by decide) ?_
      refine e_icmp_ne_n (tgt := 61) dd_Md_safe_54 (by decide) (by omega) (by omega) (fun _ => ?_) (fun h9 => absurd h9 (by omega))
      refine e_iload dd_Md_safe_61 rfl ?_
      refine e_bipush_n 46 dd_Md_safe_63 (by decide) ?_
      refine e_icmp_ne_n (tgt := 74) dd_Md_safe_65 (by decide) (by omega) (by omega) (fun c65 => ?_) (fun c65 => ?_)
      · rw [if_neg (by rw [hdot c31]; exact c65)]
        refine e_iload_n dd_Md_safe_74 rfl ?_
        refine e_istore_n (lv1 := [(0, .ref 69), (1, .int (nI j)), (2, .int (nI pt)), (3, .int (nI ds)), (4, .int (nI i)), (5, .int (nI v))]) dd_Md_safe_75 (by decide) rfl ?_
        refine e_iload dd_Md_safe_76 rfl ?_
        refine e_bipush_n 47 dd_Md_safe_78 (by decide) ?_
        refine e_icmp_ne_n (tgt := 87) dd_Md_safe_80 (by decide) (by omega) (by omega) (fun _ => ?_) (fun h9 => absurd h9 (by omega))
        refine e_iload_n dd_Md_safe_87 rfl ?_
        refine e_iconst_n 1 dd_Md_safe_88 (by decide) ?_
        refine e_iadd_n dd_Md_safe_89 ?_
        refine e_istore_n (lv1 := [(0, .ref 69), (1, .int (nI j)), (2, .int (nI (pt + 1))), (3, .int (nI ds)), (4, .int (nI i)), (5, .int (nI v))]) dd_Md_safe_90 (by decide) rfl ?_
        refine e_iinc_n (a := i) (k := 1) (lv1 := [(0, .ref 69), (1, .int (nI j)), (2, .int (nI (pt + 1))), (3, .int (nI ds)), (4, .int (nI (i + 1))), (5, .int (nI v))]) dd_Md_safe_91 rfl (by decide) (by decide) rfl ?_
        refine e_goto (tgt := 7) dd_Md_safe_94 (by decide) ?_
        refine e_rm (lv1 := [(0, .ref 69), (1, .int (nI j)), (2, .int (nI (pt + 1))), (3, .int (nI ds)), (4, .int (nI (i + 1)))]) 5 rfl ?_
        exact ih (i + 1) (pt + 1) ds (by omega) (by omega) (by omega)
      · rw [if_pos (by rw [hdot c31]; exact c65)]
        refine e_iload_n dd_Md_safe_68 rfl ?_
        refine e_iconst_n 1 dd_Md_safe_69 (by decide) ?_
        refine e_iadd_n dd_Md_safe_70 ?_
        refine e_goto (tgt := 75) dd_Md_safe_71 (by decide) ?_
        refine e_istore_n (lv1 := [(0, .ref 69), (1, .int (nI j)), (2, .int (nI pt)), (3, .int (nI (ds + 1))), (4, .int (nI i)), (5, .int (nI v))]) dd_Md_safe_75 (by decide) rfl ?_
        refine e_iload dd_Md_safe_76 rfl ?_
        refine e_bipush_n 47 dd_Md_safe_78 (by decide) ?_
        refine e_icmp_ne_n (tgt := 87) dd_Md_safe_80 (by decide) (by omega) (by omega) (fun _ => ?_) (fun h9 => absurd h9 (by omega))
        refine e_iload_n dd_Md_safe_87 rfl ?_
        refine e_iconst_n 1 dd_Md_safe_88 (by decide) ?_
        refine e_iadd_n dd_Md_safe_89 ?_
        refine e_istore_n (lv1 := [(0, .ref 69), (1, .int (nI j)), (2, .int (nI (pt + 1))), (3, .int (nI (ds + 1))), (4, .int (nI i)), (5, .int (nI v))]) dd_Md_safe_90 (by decide) rfl ?_
        refine e_iinc_n (a := i) (k := 1) (lv1 := [(0, .ref 69), (1, .int (nI j)), (2, .int (nI (pt + 1))), (3, .int (nI (ds + 1))), (4, .int (nI (i + 1))), (5, .int (nI v))]) dd_Md_safe_91 rfl (by decide) (by decide) rfl ?_
        refine e_goto (tgt := 7) dd_Md_safe_94 (by decide) ?_
        refine e_rm (lv1 := [(0, .ref 69), (1, .int (nI j)), (2, .int (nI (pt + 1))), (3, .int (nI (ds + 1))), (4, .int (nI (i + 1)))]) 5 rfl ?_
        exact ih (i + 1) (pt + 1) (ds + 1) (by omega) (by omega) (by omega)
    · rw [if_pos c31]
      refine e_iload_n dd_Md_safe_34 rfl ?_
      refine e_if_eq_n (tgt := 48) dd_Md_safe_35 (by decide) (by omega) (fun c35 => ?_) (fun c35 => ?_)
      · rw [if_pos (Or.inl c35)]
        refine e_iconst_n 0 dd_Md_safe_48 (by decide) ?_
        exact e_zret dd_Md_safe_49 rfl (by decide) (pP_of rfl)
      · refine e_iload_n dd_Md_safe_38 rfl ?_
        refine e_iconst_n 2 dd_Md_safe_39 (by decide) ?_
        refine e_icmp_ne_n (tgt := 50) dd_Md_safe_40 (by decide) (by omega) (by omega) (fun c40 => ?_) (fun c40 => ?_)
        · rw [if_neg (by omega)]
          refine e_iload dd_Md_safe_50 rfl ?_
          refine e_bipush_n 47 dd_Md_safe_52 (by decide) ?_
          refine e_icmp_ne_n (tgt := 61) dd_Md_safe_54 (by decide) (by omega) (by omega) (fun h9 => absurd h9 (by omega)) (fun _ => ?_)
          refine e_iconst_n 0 dd_Md_safe_57 (by decide) ?_
          refine e_goto (tgt := 75) dd_Md_safe_58 (by decide) ?_
          refine e_istore_n (lv1 := [(0, .ref 69), (1, .int (nI j)), (2, .int (nI pt)), (3, .int (nI 0)), (4, .int (nI i)), (5, .int (nI v))]) dd_Md_safe_75 (by decide) rfl ?_
          refine e_iload dd_Md_safe_76 rfl ?_
          refine e_bipush_n 47 dd_Md_safe_78 (by decide) ?_
          refine e_icmp_ne_n (tgt := 87) dd_Md_safe_80 (by decide) (by omega) (by omega) (fun h9 => absurd h9 (by omega)) (fun _ => ?_)
          refine e_iconst_n 0 dd_Md_safe_83 (by decide) ?_
          refine e_goto (tgt := 90) dd_Md_safe_84 (by decide) ?_
          refine e_istore_n (lv1 := [(0, .ref 69), (1, .int (nI j)), (2, .int (nI 0)), (3, .int (nI 0)), (4, .int (nI i)), (5, .int (nI v))]) dd_Md_safe_90 (by decide) rfl ?_
          refine e_iinc_n (a := i) (k := 1) (lv1 := [(0, .ref 69), (1, .int (nI j)), (2, .int (nI 0)), (3, .int (nI 0)), (4, .int (nI (i + 1))), (5, .int (nI v))]) dd_Md_safe_91 rfl (by decide) (by decide) rfl ?_
          refine e_goto (tgt := 7) dd_Md_safe_94 (by decide) ?_
          refine e_rm (lv1 := [(0, .ref 69), (1, .int (nI j)), (2, .int (nI 0)), (3, .int (nI 0)), (4, .int (nI (i + 1)))]) 5 rfl ?_
          exact ih (i + 1) 0 0 (by omega) (by omega) (by omega)
        · refine e_iload_n dd_Md_safe_43 rfl ?_
          refine e_iconst_n 2 dd_Md_safe_44 (by decide) ?_
          refine e_icmp_ne_n (tgt := 50) dd_Md_safe_45 (by decide) (by omega) (by omega) (fun c45 => ?_) (fun c45 => ?_)
          · rw [if_neg (by omega)]
            refine e_iload dd_Md_safe_50 rfl ?_
            refine e_bipush_n 47 dd_Md_safe_52 (by decide) ?_
            refine e_icmp_ne_n (tgt := 61) dd_Md_safe_54 (by decide) (by omega) (by omega) (fun h9 => absurd h9 (by omega)) (fun _ => ?_)
            refine e_iconst_n 0 dd_Md_safe_57 (by decide) ?_
            refine e_goto (tgt := 75) dd_Md_safe_58 (by decide) ?_
            refine e_istore_n (lv1 := [(0, .ref 69), (1, .int (nI j)), (2, .int (nI pt)), (3, .int (nI 0)), (4, .int (nI i)), (5, .int (nI v))]) dd_Md_safe_75 (by decide) rfl ?_
            refine e_iload dd_Md_safe_76 rfl ?_
            refine e_bipush_n 47 dd_Md_safe_78 (by decide) ?_
            refine e_icmp_ne_n (tgt := 87) dd_Md_safe_80 (by decide) (by omega) (by omega) (fun h9 => absurd h9 (by omega)) (fun _ => ?_)
            refine e_iconst_n 0 dd_Md_safe_83 (by decide) ?_
            refine e_goto (tgt := 90) dd_Md_safe_84 (by decide) ?_
            refine e_istore_n (lv1 := [(0, .ref 69), (1, .int (nI j)), (2, .int (nI 0)), (3, .int (nI 0)), (4, .int (nI i)), (5, .int (nI v))]) dd_Md_safe_90 (by decide) rfl ?_
            refine e_iinc_n (a := i) (k := 1) (lv1 := [(0, .ref 69), (1, .int (nI j)), (2, .int (nI 0)), (3, .int (nI 0)), (4, .int (nI (i + 1))), (5, .int (nI v))]) dd_Md_safe_91 rfl (by decide) (by decide) rfl ?_
            refine e_goto (tgt := 7) dd_Md_safe_94 (by decide) ?_
            refine e_rm (lv1 := [(0, .ref 69), (1, .int (nI j)), (2, .int (nI 0)), (3, .int (nI 0)), (4, .int (nI (i + 1)))]) 5 rfl ?_
            exact ih (i + 1) 0 0 (by omega) (by omega) (by omega)
          · rw [if_pos (Or.inr ⟨c40, c45⟩)]
            refine e_iconst_n 0 dd_Md_safe_48 (by decide) ?_
            exact e_zret dd_Md_safe_49 rfl (by decide) (pP_of rfl)
set_option maxRecDepth 100000 in
set_option maxHeartbeats 4000000 in
theorem c_Md_safe {j : Nat} {q : FO} (h : mO w nl dl fl ln md op pl tk rq) (h79 : w.1 79 = some (.inl (0, 84, .inl g))) (hq : opI g j q) (hj : j < 6) (h8 : q.1.length ≤ 8) (hnc : ∀ x ∈ q.1, nch x = true) : ab_E G mm_Md_safe rr_Md_safe 0 [(0, .ref 69), (1, .int (nI j))] [] w (pP (bI (safe q.1)) w) := by
  refine e_iconst_n 0 dd_Md_safe_0 (by decide) ?_
  refine e_istore_n (lv1 := [(0, .ref 69), (1, .int (nI j)), (2, .int (nI 0))]) dd_Md_safe_1 (by decide) rfl ?_
  refine e_iconst_n 0 dd_Md_safe_2 (by decide) ?_
  refine e_istore_n (lv1 := [(0, .ref 69), (1, .int (nI j)), (2, .int (nI 0)), (3, .int (nI 0))]) dd_Md_safe_3 (by decide) rfl ?_
  refine e_iconst_n 0 dd_Md_safe_4 (by decide) ?_
  refine e_istore (lv1 := [(0, .ref 69), (1, .int (nI j)), (2, .int (nI 0)), (3, .int (nI 0)), (4, .int (nI 0))]) dd_Md_safe_5 (by decide) rfl ?_
  exact l_Md_safe h h79 hq hj h8 hnc _ 0 0 0 (by omega) (by omega) (by omega)
set_option maxRecDepth 100000 in
set_option maxHeartbeats 4000000 in
theorem l_Md_sameName {j k : Nat} {q r : FO} (h : mO w nl dl fl ln md op pl tk rq) (h79 : w.1 79 = some (.inl (0, 84, .inl g))) (hq : opI g j q) (hj : j < 6) (h8 : q.1.length ≤ 8) (hr : opI g k r) (hk : k < 6) (hl : q.1.length = r.1.length) (hnc : ∀ x ∈ q.1, nch x = true) (hnr : ∀ x ∈ r.1, nch x = true) : ∀ n i, i + n = q.1.length → (∀ t, t < i → q.1.getD t 0 = r.1.getD t 0) → ab_E G mm_Md_sameName rr_Md_sameName 19 [(0, .ref 69), (1, .int (nI j)), (2, .int (nI k)), (3, .int (nI i))] [] w (pP (bI (decide (q.1 = r.1))) w) := by
  have h69 : w.1 69 = _ := h
  intro n
  induction n with
  | zero =>
    intro i hi hs
    refine e_iload_n dd_Md_sameName_19 rfl ?_
    refine e_aload_n dd_Md_sameName_20 rfl ?_
    refine e_iload_n dd_Md_sameName_21 rfl ?_
    refine e_iconst_n 1 dd_Md_sameName_22 (by decide) ?_
    refine e_callVp (d1 := rr_Md_of) (As := [.int (nI j), .int (nI 1)]) (st := [.int (nI i)]) dd_Md_sameName_23 km_Md_153 h69 rfl (by decide) rfl (Nat.le_of_ble_eq_true rfl) (Nat.le_of_ble_eq_true rfl) rfl rfl (c_Md_ofn (k := 1) h h79 (by omega) hq.2.1) ?_
    refine e_icmp_ge_n (tgt := 52) dd_Md_sameName_26 (by decide) (by omega) (by omega) (fun _ => ?_) (fun h9 => absurd h9 (by omega))
    refine e_iconst_n 1 dd_Md_sameName_52 (by decide) ?_
    exact e_zret dd_Md_sameName_53 rfl (by decide) (pP_of (bI_t (decide_eq_true (getD_ext hl (fun t ht => hs t (by omega))))))
  | succ n ih =>
    intro i hi hs
    have hv1 := nv_lt (i := i) hnc
    have hv2 := nv_lt (i := i) hnr
    have e1 : nv q.1 i = q.1.getD i 0 := if_pos (by omega)
    have e2 : nv r.1 i = r.1.getD i 0 := if_pos (by omega)
    refine e_iload_n dd_Md_sameName_19 rfl ?_
    refine e_aload_n dd_Md_sameName_20 rfl ?_
    refine e_iload_n dd_Md_sameName_21 rfl ?_
    refine e_iconst_n 1 dd_Md_sameName_22 (by decide) ?_
    refine e_callVp (d1 := rr_Md_of) (As := [.int (nI j), .int (nI 1)]) (st := [.int (nI i)]) dd_Md_sameName_23 km_Md_153 h69 rfl (by decide) rfl (Nat.le_of_ble_eq_true rfl) (Nat.le_of_ble_eq_true rfl) rfl rfl (c_Md_ofn (k := 1) h h79 (by omega) hq.2.1) ?_
    refine e_icmp_ge_n (tgt := 52) dd_Md_sameName_26 (by decide) (by omega) (by omega) (fun h9 => absurd h9 (by omega)) (fun _ => ?_)
    refine e_aload_n dd_Md_sameName_29 rfl ?_
    refine e_iload_n dd_Md_sameName_30 rfl ?_
    refine e_iload_n dd_Md_sameName_31 rfl ?_
    refine e_callVp (d1 := rr_Md_nameAt) (As := [.int (nI j), .int (nI i)]) (st := []) dd_Md_sameName_32 km_Md_156 h69 rfl (by decide) rfl (Nat.le_of_ble_eq_true rfl) (Nat.le_of_ble_eq_true rfl) rfl rfl (c_Md_nameAt h h79 hq hj h8 (by omega)) ?_
    refine e_aload_n dd_Md_sameName_35 rfl ?_
    refine e_iload_n dd_Md_sameName_36 rfl ?_
    refine e_iload_n dd_Md_sameName_37 rfl ?_
    refine e_callVp (d1 := rr_Md_nameAt) (As := [.int (nI k), .int (nI i)]) (st := [.int (nI (nv q.1 i))]) dd_Md_sameName_38 km_Md_156 h69 rfl (by decide) rfl (Nat.le_of_ble_eq_true rfl) (Nat.le_of_ble_eq_true rfl) rfl rfl (c_Md_nameAt h h79 hr hk (by omega) (by omega)) ?_
    refine e_icmp_eq_n (tgt := 46) dd_Md_sameName_41 (by decide) (by omega) (by omega) (fun c41 => ?_) (fun c41 => ?_)
    · refine e_iinc_n (a := i) (k := 1) (lv1 := [(0, .ref 69), (1, .int (nI j)), (2, .int (nI k)), (3, .int (nI (i + 1)))]) dd_Md_sameName_46 rfl (by decide) (by decide) rfl ?_
      refine e_goto (tgt := 19) dd_Md_sameName_49 (by decide) ?_
      refine ih (i + 1) (by omega) (fun t ht => ?_)
      by_cases e : t = i
      · subst e
        rw [← e1, ← e2]
        exact c41
      · exact hs t (by omega)
    · refine e_iconst_n 0 dd_Md_sameName_44 (by decide) ?_
      exact e_zret dd_Md_sameName_45 rfl (by decide) (pP_of (bI_f (decide_eq_false (fun e => c41 (by rw [e])))))
set_option maxRecDepth 100000 in
set_option maxHeartbeats 4000000 in
theorem c_Md_sameName {j k : Nat} {q r : FO} (h : mO w nl dl fl ln md op pl tk rq) (h79 : w.1 79 = some (.inl (0, 84, .inl g))) (hq : opI g j q) (hj : j < 6) (h8 : q.1.length ≤ 8) (hr : opI g k r) (hk : k < 6) (hr8 : r.1.length ≤ 8) (hnc : ∀ x ∈ q.1, nch x = true) (hnr : ∀ x ∈ r.1, nch x = true) : ab_E G mm_Md_sameName rr_Md_sameName 0 [(0, .ref 69), (1, .int (nI j)), (2, .int (nI k))] [] w (pP (bI (decide (q.1 = r.1))) w) := by
  have h69 : w.1 69 = _ := h
  refine e_aload_n dd_Md_sameName_0 rfl ?_
  refine e_iload_n dd_Md_sameName_1 rfl ?_
  refine e_iconst_n 1 dd_Md_sameName_2 (by decide) ?_
  refine e_callVp (d1 := rr_Md_of) (As := [.int (nI j), .int (nI 1)]) (st := []) dd_Md_sameName_3 km_Md_153 h69 rfl (by decide) rfl (Nat.le_of_ble_eq_true rfl) (Nat.le_of_ble_eq_true rfl) rfl rfl (c_Md_ofn (k := 1) h h79 (by omega) hq.2.1) ?_
  refine e_aload_n dd_Md_sameName_6 rfl ?_
  refine e_iload_n dd_Md_sameName_7 rfl ?_
  refine e_iconst_n 1 dd_Md_sameName_8 (by decide) ?_
  refine e_callVp (d1 := rr_Md_of) (As := [.int (nI k), .int (nI 1)]) (st := [.int (nI q.1.length)]) dd_Md_sameName_9 km_Md_153 h69 rfl (by decide) rfl (Nat.le_of_ble_eq_true rfl) (Nat.le_of_ble_eq_true rfl) rfl rfl (c_Md_ofn (k := 1) h h79 (by omega) hr.2.1) ?_
  refine e_icmp_eq_n (tgt := 17) dd_Md_sameName_12 (by decide) (by omega) (by omega) (fun c12 => ?_) (fun c12 => ?_)
  · refine e_iconst_n 0 dd_Md_sameName_17 (by decide) ?_
    refine e_istore_n (lv1 := [(0, .ref 69), (1, .int (nI j)), (2, .int (nI k)), (3, .int (nI 0))]) dd_Md_sameName_18 (by decide) rfl ?_
    exact l_Md_sameName h h79 hq hj h8 hr hk c12 hnc hnr q.1.length 0 (by omega) (fun t ht => absurd ht (Nat.not_lt_zero t))
  · refine e_iconst_n 0 dd_Md_sameName_15 (by decide) ?_
    exact e_zret dd_Md_sameName_16 rfl (by decide) (pP_of (bI_f (decide_eq_false (fun e => c12 (by rw [e])))))
end MD
