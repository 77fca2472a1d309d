/-! The class's calls: add, pack, take. -/
section AB
variable {G : ab_G} {w : ab_W} {S : CS}
/-- one more file waits -/
theorem cPk.snoc {w w2 : ab_W} {fs : List FW} {f : FW} {x : Int32} (h : cPk w fs) (hl : fs.length < 6) (hok : fwOK f) (hv : w2.1 6 = some (.inr (2, [.ref 7, .int (nI (fs.length + 1)), .ref 38]))) (hw : wfAt w2 fs.length f x) (hf : ∀ j, 7 ≤ j → j < 38 → (j < 8 + 5 * fs.length ∨ 13 + 5 * fs.length ≤ j) → w2.1 j = w.1 j) : cPk w2 (fs ++ [f]) := by
  obtain ⟨h1, h2, ⟨g, h3, h4⟩, h5, h6⟩ := h
  have kw : ∀ i nm sq m n ck x, i < 6 → i ≠ fs.length → cWF w i nm sq m n ck x → cWF w2 i nm sq m n ck x := fun i nm sq m n ck x hi hne hc => ⟨(hf _ (by omega) (by omega) (by omega)).trans hc.1, hc.2.1.keep (hf _ (by omega) (by omega) (by omega)) (hf _ (by omega) (by omega) (by omega)), hc.2.2.keep (hf _ (by omega) (by omega) (by omega)) (hf _ (by omega) (by omega) (by omega))⟩
  refine ⟨by simp; omega, by rw [List.length_append]; exact hv, ⟨g, (hf 7 (by omega) (by omega) (by omega)).trans h3, h4⟩, fun i hi => ?_, fun i p hp => ?_⟩
  · by_cases e : i = fs.length
    · subst e
      exact ⟨_, _, _, _, _, _, hw⟩
    · obtain ⟨nm, sq, m, n, ck, x, hc⟩ := h5 i hi
      exact ⟨nm, sq, m, n, ck, x, kw i nm sq m n ck x hi e hc⟩
  · by_cases e : i < fs.length
    · rw [List.getElem?_append_left e] at hp
      obtain ⟨h8, x, h9⟩ := h6 i p hp
      exact ⟨h8, x, kw i _ _ _ _ _ _ (by omega) (by omega) h9⟩
    · rw [List.getElem?_append_right (by omega)] at hp
      have hj : i - fs.length < 1 := (List.getElem?_eq_some_iff.mp hp).1
      rw [show i - fs.length = 0 by omega] at hp
      cases hp
      rw [show i = fs.length by omega]
      exact ⟨hok, x, hw⟩
set_option maxRecDepth 100000 in
set_option maxHeartbeats 4000000 in
theorem c_AB_add (h : cRep w S) (m : Int32) : ab_E G mm_AB_add rr_AB_add 0 [(0, .ref 1), (1, .int m)] [] w (cEnd w (mAdd m S)) := by
  obtain ⟨nm, by_, fs, im, op, pl, tk⟩ := S
  have h0 := h
  obtain ⟨h1, hnm, hby, hpk, ⟨dr, hdr⟩, ⟨cu, li, har⟩, haw, ⟨hop, hop6, hopk⟩, ⟨md, hmd⟩, htk⟩ := h
  have hr2 := hnm.obj
  have hnl := hnm.2.1
  have hbl := hby.2.1
  have h6 := hpk.2.1
  have hl6 := hpk.1
  refine e_iload_n dd_AB_add_0 rfl ?_
  refine e_if_lt (tgt := 19) dd_AB_add_1 (by decide) (fun c1 => ?_) (fun c1 => ?_)
  · refine e_iconst (v := -1) dd_AB_add_19 (by decide) ?_
    exact e_iret dd_AB_add_20 rfl (cEnd_of (q := (_, (nm, by_, fs, im, op, pl, tk))) (by simp only [mAdd]; rw [if_neg (fun h9 => absurd c1 (Int32.not_lt.mpr h9.1.1))]) rfl h0 rG.rf)
  · refine e_iload_n dd_AB_add_4 rfl ?_
    refine e_iconst_n 2 dd_AB_add_5 (by decide) ?_
    refine e_icmp_gt (tgt := 19) dd_AB_add_6 (by decide) (fun c6 => ?_) (fun c6 => ?_)
    · refine e_iconst (v := -1) dd_AB_add_19 (by decide) ?_
      exact e_iret dd_AB_add_20 rfl (cEnd_of (q := (_, (nm, by_, fs, im, op, pl, tk))) (by simp only [mAdd]; rw [if_neg (fun h9 => absurd c6 (Int32.not_lt.mpr h9.1.2))]) rfl h0 rG.rf)
    · refine e_aload_n dd_AB_add_9 rfl ?_
      refine e_get dd_AB_add_10 kf_AB_14 h1 rfl ?_
      refine e_get dd_AB_add_13 kf_AB_48 hr2 rfl ?_
      refine e_if_ne_n (tgt := 21) dd_AB_add_16 (by decide) (by omega) (fun c16 => ?_) (fun c16 => ?_)
      · obtain ⟨k, hk, rfl, ek⟩ := nI_self c1
        have hin : (0 ≤ nI k ∧ nI k ≤ nI 2) ∧ nm.length ≠ 0 := ⟨⟨Int32.not_lt.mp c1, Int32.not_lt.mp c6⟩, by omega⟩
        have hk2 : k ≤ 2 := (nI_leI hk (by decide)).mp (Int32.not_lt.mp c6)
        refine e_aload_n dd_AB_add_21 rfl ?_
        refine e_get dd_AB_add_22 kf_AB_24 h1 rfl ?_
        refine e_get dd_AB_add_25 kf_AB_59 h6 rfl ?_
        refine e_istore_n (lv1 := [(0, .ref 1), (1, .int (nI k)), (2, .int (nI fs.length))]) dd_AB_add_28 (by decide) rfl ?_
        refine e_iload_n dd_AB_add_29 rfl ?_
        refine e_bipush_n 6 dd_AB_add_30 (by decide) ?_
        refine e_icmp_lt_n (tgt := 38) dd_AB_add_32 (by decide) (by omega) (by omega) (fun c32 => ?_) (fun c32 => ?_)
        · obtain ⟨-, -, ⟨g, h7, hg⟩, hE, -⟩ := id hpk
          obtain ⟨nm0, sq0, m0, n0, ck0, x, hwf⟩ := hE fs.length (by omega)
          have hwo := hwf.1
          refine e_aload_n dd_AB_add_38 rfl ?_
          refine e_get dd_AB_add_39 kf_AB_24 h1 rfl ?_
          refine e_get dd_AB_add_42 kf_AB_62 h6 rfl ?_
          refine e_iload_n dd_AB_add_45 rfl ?_
          refine e_aald (v := .ref (8 + 5 * fs.length)) dd_AB_add_46 h7 rfl rfl (by omega) (by decide) (by rw [hg _ (by omega)]; rfl) ?_
          refine e_aload_n dd_AB_add_47 rfl ?_
          refine e_get dd_AB_add_48 kf_AB_14 h1 rfl ?_
          refine e_aload_n dd_AB_add_51 rfl ?_
          refine e_get dd_AB_add_52 kf_AB_18 h1 rfl ?_
          refine e_iload_n dd_AB_add_55 rfl ?_
          refine e_callVv (d1 := rr_WF_become) (As := [.ref 2, .ref 4, .int (nI k)]) (st := []) dd_AB_add_56 km_AB_66 hwo rfl (by decide) rfl (Nat.le_of_ble_eq_true rfl) (Nat.le_of_ble_eq_true rfl) rfl rfl (c_WF_become hwf hnm hby hk2) (fun w1 k1 => ?_)
          have h1 := (k1.1.2 1 (by omega)).trans h1
          have h6 := (k1.1.2 6 (by omega)).trans h6
          refine e_aload_n dd_AB_add_59 rfl ?_
          refine e_get dd_AB_add_60 kf_AB_24 h1 rfl ?_
          refine e_dup dd_AB_add_63 rfl ?_
          refine e_get dd_AB_add_64 kf_AB_59 h6 rfl ?_
          refine e_iconst_n 1 dd_AB_add_67 (by decide) ?_
          refine e_iadd_n dd_AB_add_68 ?_
          refine e_putx (fs1 := [.ref 7, .int (nI (fs.length + 1)), .ref 38]) dd_AB_add_69 kf_AB_59 h6 (Nat.le_of_ble_eq_true rfl) rfl rfl rfl (fun w21 h22n h22v h22f => ?_)
          have hnm2 := (hnm.G k1.1 (by omega) (by omega)).keep (h22f 2 (by omega)) (h22f 3 (by omega))
          have hby2 := (hby.G k1.1 (by omega) (by omega)).keep (h22f 4 (by omega)) (h22f 5 (by omega))
          have h1 := (h22f 1 (by omega)).trans h1
          have hr2 := hnm2.obj
          refine e_aload_n dd_AB_add_72 rfl ?_
          refine e_get dd_AB_add_73 kf_AB_14 h1 rfl ?_
          refine e_iconst_n 0 dd_AB_add_76 (by decide) ?_
          refine e_callVv (d1 := rr_Row_cutTo) (As := [.int (nI 0)]) (st := []) dd_AB_add_77 km_AB_72 hr2 rfl (by decide) rfl (Nat.le_of_ble_eq_true rfl) (Nat.le_of_ble_eq_true rfl) rfl rfl (c_Row_cutTo hnm2 (k := 0) (by decide)) (fun w3 k3 => ?_)
          have h1 := (k3.1.2 1 (by omega) (by omega)).trans h1
          have hby3 := hby2.fr k3.1 (by omega) (by omega) (by omega) (by omega)
          have hr4 := hby3.obj
          refine e_aload_n dd_AB_add_80 rfl ?_
          refine e_get dd_AB_add_81 kf_AB_18 h1 rfl ?_
          refine e_iconst_n 0 dd_AB_add_84 (by decide) ?_
          refine e_callVv (d1 := rr_Row_cutTo) (As := [.int (nI 0)]) (st := []) dd_AB_add_85 km_AB_72 hr4 rfl (by decide) rfl (Nat.le_of_ble_eq_true rfl) (Nat.le_of_ble_eq_true rfl) rfl rfl (c_Row_cutTo hby3 (k := 0) (by decide)) (fun w4 k4 => ?_)
          have h1 := (k4.1.2 1 (by omega) (by omega)).trans h1
          have kn := k3.2.fr k4.1 (by omega) (by omega) (by omega) (by omega)
          have kb := k4.2
          rw [List.take_zero] at kn kb
          have gg : ∀ j, j ≠ 2 → j ≠ 3 → j ≠ 4 → j ≠ 5 → j ≠ 6 → (j < 8 + 5 * fs.length ∨ 13 + 5 * fs.length ≤ j) → w4.1 j = w.1 j := fun j a2 a3 a4 a5 a6 a7 => (k4.1.2 j a4 a5).trans ((k3.1.2 j a2 a3).trans ((h22f j a6).trans (k1.1.2 j a7)))
          have gw : ∀ j, 7 ≤ j → w4.1 j = w1.1 j := fun j a7 => (k4.1.2 j (by omega) (by omega)).trans ((k3.1.2 j (by omega) (by omega)).trans (h22f j (by omega)))
          have hv6 : w4.1 6 = _ := (k4.1.2 6 (by omega) (by omega)).trans ((k3.1.2 6 (by omega) (by omega)).trans h22v)
          have hwf4 : wfAt w4 fs.length (nm, k, by_) x := ⟨(gw _ (by omega)).trans k1.2.1, k1.2.2.1.keep (gw _ (by omega)) (gw _ (by omega)), k1.2.2.2.keep (gw _ (by omega)) (gw _ (by omega))⟩
          have hpk4 : cPk w4 (fs ++ [(nm, k, by_)]) := hpk.snoc c32 ⟨by dsimp only; omega, hnl, hk2, hbl, hnm.2.2.2.2.1, hby.2.2.2.2.1⟩ hv6 hwf4 (fun j a1 a2 a3 => gg j (by omega) (by omega) (by omega) (by omega) (by omega) a3)
          have hG : rG w w4 1 69 := ⟨k4.1.1.trans (k3.1.1.trans (h22n.trans k1.1.1)), fun j hj => gg j (by omega) (by omega) (by omega) (by omega) (by omega) (by omega)⟩
          have hf : ∀ j, 38 ≤ j → w4.1 j = w.1 j := fun j hj => gg j (by omega) (by omega) (by omega) (by omega) (by omega) (by omega)
          refine e_iload_n dd_AB_add_88 rfl ?_
          exact e_iret dd_AB_add_89 rfl (cEnd_of (q := (nI fs.length, ([], [], fs ++ [(nm, k, by_)], im, op, pl, tk))) (by simp only [mAdd]; rw [if_pos hin, if_pos c32, ek]) rfl ⟨h1, kn, kb, hpk4, ⟨dr, hdr.keep (hf _ (by omega)) (hf _ (by omega))⟩, ⟨cu, li, (hf 40 (by omega)).trans har⟩, haw.G (fun j _ _ => hf j (by omega)), ⟨op_G hop hop6 (fun j _ _ => hf j (by omega)), hop6, hopk⟩, ⟨md, hmd.keep (hf _ (by omega)) (hf _ (by omega))⟩, htk.keep (hf _ (by omega)) (hf _ (by omega))⟩ hG)
        · refine e_bipush (v := -2) dd_AB_add_35 (by decide) ?_
          exact e_iret dd_AB_add_37 rfl (cEnd_of (q := (_, (nm, by_, fs, im, op, pl, tk))) (by simp only [mAdd]; rw [if_pos hin, if_neg (by omega)]) rfl h0 rG.rf)
      · refine e_iconst (v := -1) dd_AB_add_19 (by decide) ?_
        exact e_iret dd_AB_add_20 rfl (cEnd_of (q := (_, (nm, by_, fs, im, op, pl, tk))) (by simp only [mAdd]; rw [if_neg (fun h9 => h9.2 c16)]) rfl h0 rG.rf)
-- behind the draft
set_option maxRecDepth 100000 in
set_option maxHeartbeats 4000000 in
theorem l_AB_pack {nm by_ : List Nat} {fs : List FW} {im : List Nat} {op : List FO} {pl : Int32} {tk : List Nat} {f : Int32} (hf : f = 0 ∨ f = nI 1) {w0 : ab_W} (h : cRep w (nm, by_, fs, im, op, pl, tk)) (hd : cR w 38 39 823 (pkd f fs)) (hG0 : rG w0 w 1 69) : ab_E G mm_AB_pack rr_AB_pack 32 [(0, .ref 1), (1, .int f)] [] w (cEnd w0 (mPack f (nm, by_, fs, im, op, pl, tk))) := by
  have h0 := h
  obtain ⟨h1, hnm, hby, hpk, -, ⟨cu, li, har⟩, haw, ⟨hop, hop6, hopk⟩, ⟨md, hmd⟩, htk⟩ := h
  have h6 := hpk.2.1
  have hr := hd.obj
  have hdl := hd.2.1
  have h40 : w.1 40 = _ := har
  have hr41 := haw.2.2.obj
  have him := haw.2.2
  generalize hpe : pkd f fs = D at hd hr hdl
  refine e_aload_n dd_AB_pack_32 rfl ?_
  refine e_get dd_AB_pack_33 kf_AB_24 h1 rfl ?_
  refine e_get dd_AB_pack_36 kf_AB_81 h6 rfl ?_
  refine e_get dd_AB_pack_39 kf_AB_48 hr rfl ?_
  refine e_sipush_n 600 dd_AB_pack_42 (by decide) ?_
  refine e_icmp_le_n (tgt := 51) dd_AB_pack_45 (by decide) (by omega) (by omega) (fun c45 => ?_) (fun c45 => ?_)
  · refine e_aload_n dd_AB_pack_51 rfl ?_
    refine e_get dd_AB_pack_52 kf_AB_31 h1 rfl ?_
    refine e_get dd_AB_pack_55 kf_AB_84 h40 rfl ?_
    refine e_aload_n dd_AB_pack_58 rfl ?_
    refine e_get dd_AB_pack_59 kf_AB_24 h1 rfl ?_
    refine e_get dd_AB_pack_62 kf_AB_81 h6 rfl ?_
    refine e_callVv (d1 := rr_Row_become) (As := [.ref 38]) (st := []) dd_AB_pack_65 km_AB_87 hr41 rfl (by decide) rfl (Nat.le_of_ble_eq_true rfl) (Nat.le_of_ble_eq_true rfl) rfl rfl (c_Row_become him hd (by decide) (by decide) c45) (fun w1 k1 => ?_)
    have h1 := (k1.1.2 1 (by decide) (by decide)).trans h1
    have har := (k1.1.2 40 (by decide) (by decide)).trans har
    have h40 := har
    have h6 := (k1.1.2 6 (by decide) (by decide)).trans h6
    refine e_aload_n dd_AB_pack_68 rfl ?_
    refine e_get dd_AB_pack_69 kf_AB_31 h1 rfl ?_
    refine e_callVv (d1 := rr_Ar_close) (As := []) (st := []) dd_AB_pack_72 km_AB_90 h40 rfl (by decide) rfl (Nat.le_of_ble_eq_true rfl) (Nat.le_of_ble_eq_true rfl) rfl rfl (c_Ar_close har) (fun w2 k2 => ?_)
    have h1 := (k2.1.2 1 (by decide) (by decide)).trans h1
    have h6 := (k2.1.2 6 (by decide) (by decide)).trans h6
    refine e_aload_n dd_AB_pack_75 rfl ?_
    refine e_get dd_AB_pack_76 kf_AB_24 h1 rfl ?_
    refine e_iconst_n 0 dd_AB_pack_79 (by decide) ?_
    refine e_putx (fs1 := [.ref 7, .int (nI 0), .ref 38]) dd_AB_pack_80 kf_AB_59 h6 (Nat.le_of_ble_eq_true rfl) rfl rfl rfl (fun w21 h22n h22v h22f => ?_)
    have h1 := (h22f 1 (by decide)).trans h1
    have h40 : w21.1 40 = _ := (h22f 40 (by decide)).trans k2.2
    have him3 := (k1.2.S40 k2.1 (by decide) (by decide)).keep (h22f 41 (by decide)) (h22f 42 (by decide))
    have hr41 := him3.obj
    have gg : ∀ j, j ≠ 6 → j ≠ 40 → j ≠ 41 → j ≠ 42 → w21.1 j = w.1 j := fun j a1 a2 a3 a4 => (h22f j a1).trans ((k2.1.2 j a2 a2).trans (k1.1.2 j a3 a4))
    have hW3 : aW w21 D := by
      obtain ⟨⟨g, h43, hg⟩, hE, -⟩ := haw
      refine ⟨⟨g, (gg 43 (by decide) (by decide) (by decide) (by decide)).trans h43, hg⟩, fun i hi => ?_, him3⟩
      obtain ⟨⟨m, a, s, n, k, h5⟩, nm, h6⟩ := hE i hi
      exact ⟨⟨m, a, s, n, k, (gg _ (by omega) (by omega) (by omega) (by omega)).trans h5⟩, nm, h6.keep (gg _ (by omega) (by omega) (by omega) (by omega)) (gg _ (by omega) (by omega) (by omega) (by omega))⟩
    have hpk3 : cPk w21 [] := by
      obtain ⟨p1, p2, ⟨g, p3, p4⟩, p5, p6⟩ := hpk
      refine ⟨by decide, h22v, ⟨g, (gg 7 (by decide) (by decide) (by decide) (by decide)).trans p3, p4⟩, fun i hi => ?_, fun i q hq => by simp at hq⟩
      obtain ⟨nm, sq, m, n, ck, x, hc⟩ := p5 i hi
      exact ⟨nm, sq, m, n, ck, x, (gg _ (by omega) (by omega) (by omega) (by omega)).trans hc.1, hc.2.1.keep (gg _ (by omega) (by omega) (by omega) (by omega)) (gg _ (by omega) (by omega) (by omega) (by omega)), hc.2.2.keep (gg _ (by omega) (by omega) (by omega) (by omega)) (gg _ (by omega) (by omega) (by omega) (by omega))⟩
    have hG : rG w0 w21 1 69 := hG0.tr ⟨h22n.trans (k2.1.1.trans k1.1.1), fun j hj => gg j (by omega) (by omega) (by omega) (by omega)⟩
    refine e_aload_n dd_AB_pack_83 rfl ?_
    refine e_get dd_AB_pack_84 kf_AB_31 h1 rfl ?_
    refine e_get dd_AB_pack_87 kf_AB_84 h40 rfl ?_
    refine e_get dd_AB_pack_90 kf_AB_48 hr41 rfl ?_
    exact e_iret dd_AB_pack_93 rfl (cEnd_of (q := (nI D.length, (nm, by_, [], D, [], pl, tk))) (by simp only [mPack]; rw [if_pos hf, hpe, if_pos c45]) rfl ⟨h1, hnm.keep (gg _ (by decide) (by decide) (by decide) (by decide)) (gg _ (by decide) (by decide) (by decide) (by decide)), hby.keep (gg _ (by decide) (by decide) (by decide) (by decide)) (gg _ (by decide) (by decide) (by decide) (by decide)), hpk3, ⟨D, hd.keep (gg _ (by decide) (by decide) (by decide) (by decide)) (gg _ (by decide) (by decide) (by decide) (by decide))⟩, ⟨cu, li, h40⟩, hW3, hopN, ⟨md, hmd.keep (gg _ (by decide) (by decide) (by decide) (by decide)) (gg _ (by decide) (by decide) (by decide) (by decide))⟩, htk.keep (gg _ (by decide) (by decide) (by decide) (by decide)) (gg _ (by decide) (by decide) (by decide) (by decide))⟩ hG)
  · refine e_bipush (v := -2) dd_AB_pack_48 (by decide) ?_
    exact e_iret dd_AB_pack_50 rfl (cEnd_of (q := (-2, (nm, by_, fs, im, op, pl, tk))) (by simp only [mPack]; rw [if_pos hf, hpe, if_neg (by omega)]) rfl h0 hG0)
set_option maxRecDepth 100000 in
set_option maxHeartbeats 4000000 in
theorem c_AB_pack (h : cRep w S) (f : Int32) : ab_E G mm_AB_pack rr_AB_pack 0 [(0, .ref 1), (1, .int f)] [] w (cEnd w (mPack f S)) := by
  obtain ⟨nm, by_, fs, im, op, pl, tk⟩ := S
  have h0 := h
  obtain ⟨h1, hnm, hby, hpk, ⟨dr, hdr⟩, ⟨cu, li, har⟩, haw, ⟨hop, hop6, hopk⟩, ⟨md, hmd⟩, htk⟩ := h
  have h6 := hpk.2.1
  refine e_iload_n dd_AB_pack_0 rfl ?_
  refine e_if_eq (tgt := 11) dd_AB_pack_1 (by decide) (fun c1 => ?_) (fun c1 => ?_)
  · subst c1
    refine e_iload_n dd_AB_pack_11 rfl ?_
    refine e_if_ne (tgt := 25) dd_AB_pack_12 (by decide) (fun h9 => absurd h9 (fun h8 => h8 rfl)) (fun _ => ?_)
    refine e_aload_n dd_AB_pack_15 rfl ?_
    refine e_get dd_AB_pack_16 kf_AB_24 h1 rfl ?_
    refine e_callVv (d1 := rr_Pk_draftChain) (As := []) (st := []) dd_AB_pack_19 km_AB_75 h6 rfl (by decide) rfl (Nat.le_of_ble_eq_true rfl) (Nat.le_of_ble_eq_true rfl) rfl rfl (c_Pk_draftChain hpk hdr) (fun w1 k1 => ?_)
    refine e_goto (tgt := 32) dd_AB_pack_22 (by decide) ?_
    have hG := k1.1.G (lo := 38) (hi := 40) (by decide) (by decide)
    exact l_AB_pack (Or.inl rfl) ⟨(hG.2 1 (by omega)).trans h1, hnm.G hG (by omega) (by omega), hby.G hG (by omega) (by omega), hpk.fr k1.1, ⟨_, k1.2⟩, ⟨cu, li, (hG.2 40 (by omega)).trans har⟩, haw.G (fun j _ _ => hG.2 j (by omega)), ⟨op_G hop hop6 (fun j _ _ => hG.2 j (by omega)), hop6, hopk⟩, ⟨md, hmd.G hG (by omega) (by omega)⟩, htk.G hG (by omega) (by omega)⟩ (by rw [pkd, if_pos rfl]; exact k1.2) (hG.wide (by decide) (by decide))
  · refine e_iload_n dd_AB_pack_4 rfl ?_
    refine e_iconst_n 1 dd_AB_pack_5 (by decide) ?_
    refine e_icmp_eq (tgt := 11) dd_AB_pack_6 (by decide) (fun c6 => ?_) (fun c6 => ?_)
    · refine e_iload_n dd_AB_pack_11 rfl ?_
      refine e_if_ne (tgt := 25) dd_AB_pack_12 (by decide) (fun _ => ?_) (fun h9 => absurd h9 (fun h8 => c1 h8))
      refine e_aload_n dd_AB_pack_25 rfl ?_
      refine e_get dd_AB_pack_26 kf_AB_24 h1 rfl ?_
      refine e_callVv (d1 := rr_Pk_draftIndex) (As := []) (st := []) dd_AB_pack_29 km_AB_78 h6 rfl (by decide) rfl (Nat.le_of_ble_eq_true rfl) (Nat.le_of_ble_eq_true rfl) rfl rfl (c_Pk_draftIndex hpk hdr) (fun w1 k1 => ?_)
      exact l_AB_pack (Or.inr c6) ⟨(k1.1.2 1 (by omega)).trans h1, hnm.G k1.1 (by omega) (by omega), hby.G k1.1 (by omega) (by omega), k1.2.1, ⟨_, k1.2.2⟩, ⟨cu, li, (k1.1.2 40 (by omega)).trans har⟩, haw.G (fun j _ _ => k1.1.2 j (by omega)), ⟨op_G hop hop6 (fun j _ _ => k1.1.2 j (by omega)), hop6, hopk⟩, ⟨md, hmd.G k1.1 (by omega) (by omega)⟩, htk.G k1.1 (by omega) (by omega)⟩ (by rw [pkd, if_neg c1]; exact k1.2.2) (k1.1.wide (by decide) (by decide))
    · refine e_iconst (v := -1) dd_AB_pack_9 (by decide) ?_
      exact e_iret dd_AB_pack_10 rfl (cEnd_of (q := (_, (nm, by_, fs, im, op, pl, tk))) (by simp only [mPack]; rw [if_neg (fun h9 => h9.elim c1 c6)]) rfl h0 rG.rf)
set_option maxRecDepth 100000 in
set_option maxHeartbeats 4000000 in
theorem c_AB_take (h : cRep w S) (f : Int32) : ab_E G mm_AB_take rr_AB_take 0 [(0, .ref 1), (1, .int f)] [] w (cEnd w (mTake f S)) := by
  obtain ⟨nm, by_, fs, im, op, pl, tk⟩ := S
  have h0 := h
  obtain ⟨h1, hnm, hby, hpk, ⟨dr, hdr⟩, ⟨cu, li, har⟩, haw, ⟨hop, hop6, hopk⟩, ⟨md, hmd⟩, htk⟩ := h
  have h40 : w.1 40 = _ := har
  have htl := htk.2.1
  obtain ⟨⟨g, h43, hg⟩, hE, him⟩ := id haw
  refine e_aload_n dd_AB_take_0 rfl ?_
  refine e_get dd_AB_take_1 kf_AB_31 h1 rfl ?_
  refine e_iload_n dd_AB_take_4 rfl ?_
  refine e_callVp (d1 := rr_Ar_has) (As := [.int f]) (st := []) dd_AB_take_5 km_AB_115 h40 rfl (by decide) rfl (Nat.le_of_ble_eq_true rfl) (Nat.le_of_ble_eq_true rfl) rfl rfl (c_Ar_has har (by omega) f) ?_
  refine e_if_ne_b (tgt := 13) dd_AB_take_8 (by decide) (fun c8 => ?_) (fun c8 => ?_)
  · have c9 := of_decide_eq_true c8
    obtain ⟨j, hj, rfl, ej⟩ := nI_self (Int32.not_lt.mpr c9.1)
    have hjl : j < op.length := (nI_ltI hj (by omega)).mp c9.2
    have hq : op[j]? = some op[j] := List.getElem?_eq_getElem hjl
    have hqm : op[j] ∈ op := List.getElem_mem hjl
    generalize op[j] = q at hq hqm
    obtain ⟨o1, o2, o3, o4, o5, o6, o7, o8⟩ := hopk q hqm
    obtain ⟨hfq, hnq⟩ := hop j q hq
    have hfo : w.1 (44 + 3 * j) = _ := hfq
    have hmr := hmd.obj
    refine e_aload_n dd_AB_take_13 rfl ?_
    refine e_get dd_AB_take_14 kf_AB_31 h1 rfl ?_
    refine e_get dd_AB_take_17 kf_AB_118 h40 rfl ?_
    refine e_iload_n dd_AB_take_20 rfl ?_
    refine e_aald (v := .ref (44 + 3 * j)) dd_AB_take_21 h43 rfl rfl (by omega) (by decide) (by rw [hg _ (by omega)]; rfl) ?_
    refine e_astore_n (lv1 := [(0, .ref 1), (1, .int (nI j)), (2, .ref (44 + 3 * j))]) dd_AB_take_22 (by decide) rfl ?_
    refine e_aload_n dd_AB_take_23 rfl ?_
    refine e_callVp (d1 := rr_OF_hasSafeName) (As := []) (st := []) dd_AB_take_24 km_AB_121 hfo rfl (by decide) rfl (Nat.le_of_ble_eq_true rfl) (Nat.le_of_ble_eq_true rfl) rfl rfl (c_OF_hasSafeName ⟨hfq, hnq⟩) ?_
    refine e_if_ne_b (tgt := 33) dd_AB_take_27 (by decide) (fun c27 => ?_) (fun c27 => ?_)
    · refine e_aload_n dd_AB_take_33 rfl ?_
      refine e_get dd_AB_take_34 kf_AB_31 h1 rfl ?_
      refine e_iload_n dd_AB_take_37 rfl ?_
      refine e_callVp (d1 := rr_Ar_hasNameBefore) (As := [.int (nI j)]) (st := []) dd_AB_take_38 km_AB_127 h40 rfl (by decide) rfl (Nat.le_of_ble_eq_true rfl) (Nat.le_of_ble_eq_true rfl) rfl rfl (c_Ar_hasNameBefore har haw hop hop6 hq) ?_
      refine e_if_eq_b (tgt := 47) dd_AB_take_41 (by decide) (fun c41 => ?_) (fun c41 => ?_)
      · have k0 := c_Un_unsqueeze (G := G) (f := 44 + 3 * j) him hmd (by decide) (by decide) hfq o4 o5 o6
        refine e_aload_n dd_AB_take_47 rfl ?_
        refine e_get dd_AB_take_48 kf_AB_31 h1 rfl ?_
        refine e_get dd_AB_take_51 kf_AB_84 h40 rfl ?_
        refine e_aload_n dd_AB_take_54 rfl ?_
        refine e_aload_n dd_AB_take_55 rfl ?_
        refine e_get dd_AB_take_56 kf_AB_35 h1 rfl ?_
        refine e_callSi (d1 := rr_Un_unsqueeze) (As := [.ref 41, .ref (44 + 3 * j), .ref 65]) (st := []) dd_AB_take_59 km_AB_130 (by decide) rfl (Nat.le_of_ble_eq_true rfl) (Nat.le_of_ble_eq_true rfl) rfl rfl (k0) (fun w1 k1 => ?_)
        obtain ⟨y1, zs, y2, y3⟩ := k1
        have hG := y1.G (lo := 65) (hi := 67) (by decide) (by decide)
        have h1 := (hG.2 1 (by omega)).trans h1
        have hfo := (hG.2 (44 + 3 * j) (by omega)).trans hfo
        have hmr := y2.obj
        have hzl := y2.2.1
        have htk1 := htk.G hG (by omega) (by omega)
        have htr := htk1.obj
        have hrep : ∀ (tk2 : List Nat) (w2 : ab_W), rG w1 w2 67 69 → cR w2 67 68 60 tk2 → cRep w2 (nm, by_, fs, im, op, pl, tk2) ∧ rG w w2 1 69 := fun tk2 w2 hG2 ht2 => by
          have hf : ∀ j, (j < 65 ∨ 69 ≤ j) → w2.1 j = w.1 j := fun j hj => (hG2.2 j (by omega)).trans (hG.2 j (by omega))
          exact ⟨⟨(hG2.2 1 (by omega)).trans h1, hnm.keep (hf _ (by omega)) (hf _ (by omega)), hby.keep (hf _ (by omega)) (hf _ (by omega)), hpk.keep (fun j _ _ => hf j (by omega)), ⟨dr, hdr.keep (hf _ (by omega)) (hf _ (by omega))⟩, ⟨cu, li, (hf 40 (by omega)).trans har⟩, haw.G (fun j _ _ => hf j (by omega)), ⟨op_G hop hop6 (fun j _ _ => hf j (by omega)), hop6, hopk⟩, ⟨zs, y2.G hG2 (by omega) (by omega)⟩, ht2⟩, hG2.1.trans hG.1, fun j hj => hf j (by omega)⟩
        have hsame := hrep tk w1 rG.rf htk1
        generalize hoe : unsq q.2.1 im q.2.2.1 (q.2.2.1 + q.2.2.2.1) = o at y3 ⊢
        refine e_if_ne_b (tgt := 68) dd_AB_take_62 (by decide) (fun c62 => ?_) (fun c62 => ?_)
        · have ez := y3 c62
          subst ez
          have hln : zs.length = q.2.2.2.2.1 := of_decide_eq_true c62
          have kc := c_Row_check (G := G) y2 (Nat.zero_le _) (Nat.le_refl _)
          rw [List.drop_zero, Nat.sub_zero, List.take_length] at kc
          have hcl := crc_lt zs
          refine e_aload_n dd_AB_take_68 rfl ?_
          refine e_get dd_AB_take_69 kf_AB_35 h1 rfl ?_
          refine e_iconst_n 0 dd_AB_take_72 (by decide) ?_
          refine e_aload_n dd_AB_take_73 rfl ?_
          refine e_get dd_AB_take_74 kf_AB_35 h1 rfl ?_
          refine e_get dd_AB_take_77 kf_AB_48 hmr rfl ?_
          refine e_callVp (d1 := rr_Row_check) (As := [.int (nI 0), .int (nI zs.length)]) (st := []) dd_AB_take_80 km_AB_136 hmr rfl (by decide) rfl (Nat.le_of_ble_eq_true rfl) (Nat.le_of_ble_eq_true rfl) rfl rfl (kc) ?_
          refine e_aload_n dd_AB_take_83 rfl ?_
          refine e_get dd_AB_take_84 kf_AB_139 hfo rfl ?_
          refine e_icmp_eq_n (tgt := 93) dd_AB_take_87 (by decide) (by omega) (by omega) (fun c87 => ?_) (fun c87 => ?_)
          · refine e_aload_n dd_AB_take_93 rfl ?_
            refine e_get dd_AB_take_94 kf_AB_38 h1 rfl ?_
            refine e_aload_n dd_AB_take_97 rfl ?_
            refine e_get dd_AB_take_98 kf_AB_35 h1 rfl ?_
            refine e_callVv (d1 := rr_Row_become) (As := [.ref 65]) (st := []) dd_AB_take_101 km_AB_87 htr rfl (by decide) rfl (Nat.le_of_ble_eq_true rfl) (Nat.le_of_ble_eq_true rfl) rfl rfl (c_Row_become htk1 y2 (by decide) (by decide) hzl) (fun w2 k2 => ?_)
            have h1 := (k2.1.2 1 (by decide) (by decide)).trans h1
            have htr := k2.2.obj
            have hfin := hrep zs w2 (k2.1.G (by decide) (by decide)) k2.2
            refine e_aload_n dd_AB_take_104 rfl ?_
            refine e_get dd_AB_take_105 kf_AB_38 h1 rfl ?_
            refine e_get dd_AB_take_108 kf_AB_48 htr rfl ?_
            exact e_iret dd_AB_take_111 rfl (cEnd_of (q := (nI zs.length, (nm, by_, fs, im, op, pl, zs))) (by simp only [mTake]; rw [if_pos c9, ej, hq]; dsimp only; rw [if_neg (by rw [c27]; decide)]; rw [if_neg (by rw [c41]; decide), hoe]; dsimp only; rw [if_neg (fun h9 => h9 hln)]; rw [if_neg (fun h9 => h9 c87)]) rfl hfin.1 hfin.2)
          · refine e_bipush (v := -7) dd_AB_take_90 (by decide) ?_
            exact e_iret dd_AB_take_92 rfl (cEnd_of (q := (-7, (nm, by_, fs, im, op, pl, tk))) (by simp only [mTake]; rw [if_pos c9, ej, hq]; dsimp only; rw [if_neg (by rw [c27]; decide)]; rw [if_neg (by rw [c41]; decide), hoe]; dsimp only; rw [if_neg (fun h9 => h9 hln)]; rw [if_pos c87]) rfl hsame.1 hsame.2)
        · refine e_bipush (v := -5) dd_AB_take_65 (by decide) ?_
          have em : mTake (nI j) (nm, by_, fs, im, op, pl, tk) = (-5, (nm, by_, fs, im, op, pl, tk)) := by
            simp only [mTake]
            rw [if_pos c9, ej, hq]
            dsimp only
            rw [if_neg (by rw [c27]; decide), if_neg (by rw [c41]; decide), hoe]
            cases o with
            | none => rfl
            | some ys =>
              have hne : ys.length ≠ q.2.2.2.2.1 := of_decide_eq_false c62
              dsimp only
              rw [if_pos hne]
          exact e_iret dd_AB_take_67 rfl (cEnd_of em rfl hsame.1 hsame.2)
      · refine e_bipush (v := -8) dd_AB_take_44 (by decide) ?_
        exact e_iret dd_AB_take_46 rfl (cEnd_of (q := (-8, (nm, by_, fs, im, op, pl, tk))) (by simp only [mTake]; rw [if_pos c9, ej, hq]; dsimp only; rw [if_neg (by rw [c27]; decide)]; rw [if_pos c41]) rfl h0 rG.rf)
    · refine e_bipush (v := -6) dd_AB_take_30 (by decide) ?_
      exact e_iret dd_AB_take_32 rfl (cEnd_of (q := (-6, (nm, by_, fs, im, op, pl, tk))) (by simp only [mTake]; rw [if_pos c9, ej, hq]; dsimp only; rw [if_pos c27]) rfl h0 rG.rf)
  · refine e_iconst (v := -1) dd_AB_take_11 (by decide) ?_
    exact e_iret dd_AB_take_12 rfl (cEnd_of (q := (_, (nm, by_, fs, im, op, pl, tk))) (by simp only [mTake]; rw [if_neg (of_decide_eq_false c8)]) rfl h0 rG.rf)
end AB
