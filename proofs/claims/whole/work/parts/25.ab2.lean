/-! The class's calls that change the image, the files, the taken bytes. -/
section AB
variable {G : ab_G} {w : ab_W} {S : CS}
theorem hopN {w : ab_W} {n : Nat} : (∀ (j : Nat) (q : FO), ([] : List FO)[j]? = some q → fOf w j q) ∧ ([] : List FO).length ≤ 6 ∧ ∀ q ∈ ([] : List FO), foOK n q := ⟨fun j q hq => by simp at hq, by decide, fun q hq => by cases hq⟩
set_option maxRecDepth 100000 in
set_option maxHeartbeats 4000000 in
theorem c_AB_cut (h : cRep w S) (n : Int32) : ab_E G mm_AB_cut rr_AB_cut 0 [(0, .ref 1), (1, .int n)] [] w (cEnd w (mCut n S)) := by
  obtain ⟨nm, by_, fs, im, op, pl, tk⟩ := S
  have h0 := h
  obtain ⟨h1, hnm, hby, hpk, ⟨dr, hdr⟩, ⟨cu, li, har⟩, haw, ⟨hop, hop6, hopk⟩, ⟨md, hmd⟩, htk⟩ := h
  have h40 : w.1 40 = _ := har
  have him := haw.2.2
  have h600 := him.2.1
  have hr := him.obj
  refine e_iload_n dd_AB_cut_0 rfl ?_
  refine e_if_lt (tgt := 18) dd_AB_cut_1 (by decide) (fun c1 => ?_) (fun c1 => ?_)
  · refine e_iconst (v := -1) dd_AB_cut_18 (by decide) ?_
    exact e_iret dd_AB_cut_19 rfl (cEnd_of (q := (_, (nm, by_, fs, im, op, pl, tk))) (by simp only [mCut]; rw [if_neg (fun h9 => absurd c1 (Int32.not_lt.mpr h9.1))]) rfl h0 rG.rf)
  · refine e_iload_n dd_AB_cut_4 rfl ?_
    refine e_aload_n dd_AB_cut_5 rfl ?_
    refine e_get dd_AB_cut_6 kf_AB_31 h1 rfl ?_
    refine e_get dd_AB_cut_9 kf_AB_84 h40 rfl ?_
    refine e_get dd_AB_cut_12 kf_AB_48 hr rfl ?_
    refine e_icmp_le (tgt := 20) dd_AB_cut_15 (by decide) (fun c15 => ?_) (fun c15 => ?_)
    · obtain ⟨k, hk, rfl, ek⟩ := nI_self c1
      have hin : 0 ≤ nI k ∧ nI k ≤ nI im.length := ⟨Int32.not_lt.mp c1, c15⟩
      refine e_aload_n dd_AB_cut_20 rfl ?_
      refine e_get dd_AB_cut_21 kf_AB_31 h1 rfl ?_
      refine e_get dd_AB_cut_24 kf_AB_84 h40 rfl ?_
      refine e_iload_n dd_AB_cut_27 rfl ?_
      refine e_callVv (d1 := rr_Row_cutTo) (As := [.int (nI k)]) (st := []) dd_AB_cut_28 km_AB_72 hr rfl (by decide) rfl (Nat.le_of_ble_eq_true rfl) (Nat.le_of_ble_eq_true rfl) rfl rfl (c_Row_cutTo him hk) (fun w1 k1 => ?_)
      have h1 := (k1.1.2 1 (by decide) (by decide)).trans h1
      have har := (k1.1.2 40 (by decide) (by decide)).trans har
      have h40 := har
      refine e_aload_n dd_AB_cut_31 rfl ?_
      refine e_get dd_AB_cut_32 kf_AB_31 h1 rfl ?_
      refine e_callVv (d1 := rr_Ar_close) (As := []) (st := []) dd_AB_cut_35 km_AB_90 h40 rfl (by decide) rfl (Nat.le_of_ble_eq_true rfl) (Nat.le_of_ble_eq_true rfl) rfl rfl (c_Ar_close har) (fun w8 k8 => ?_)
      have h1 := (k8.1.2 1 (by decide) (by decide)).trans h1
      have h40 := k8.2
      have him2 := k1.2.S40 k8.1 (by decide) (by decide)
      have hr := him2.obj
      have hG : rG w w8 40 43 := (k1.1.G (by decide) (by decide)).tr (k8.1.G (by decide) (by decide))
      have hW2 : aW w8 (im.take k) := by
        obtain ⟨⟨g, h43, hg⟩, hE, -⟩ := haw
        refine ⟨⟨g, (hG.2 43 (by omega)).trans h43, hg⟩, fun i hi => ?_, him2⟩
        obtain ⟨⟨m, a, s, n, k, h5⟩, nm, h6⟩ := hE i hi
        exact ⟨⟨m, a, s, n, k, (hG.2 _ (by omega)).trans h5⟩, nm, h6.G hG (by omega) (by omega)⟩
      refine e_iload_n dd_AB_cut_38 rfl ?_
      exact e_iret dd_AB_cut_39 rfl (cEnd_of (q := (nI k, (nm, by_, fs, im.take k, [], pl, tk))) (by simp only [mCut]; rw [if_pos hin, ek]) rfl ⟨h1, hnm.G hG (by omega) (by omega), hby.G hG (by omega) (by omega), hpk.keep (fun j _ _ => hG.2 j (by omega)), ⟨dr, hdr.G hG (by omega) (by omega)⟩, ⟨cu, li, h40⟩, hW2, hopN, ⟨md, hmd.G hG (by omega) (by omega)⟩, htk.G hG (by omega) (by omega)⟩ (hG.wide (by decide) (by decide)))
    · refine e_iconst (v := -1) dd_AB_cut_18 (by decide) ?_
      exact e_iret dd_AB_cut_19 rfl (cEnd_of (q := (_, (nm, by_, fs, im, op, pl, tk))) (by simp only [mCut]; rw [if_neg (fun h9 => c15 h9.2)]) rfl h0 rG.rf)
set_option maxRecDepth 100000 in
set_option maxHeartbeats 4000000 in
theorem c_AB_put (h : cRep w S) (i b : Int32) : ab_E G mm_AB_put rr_AB_put 0 [(0, .ref 1), (1, .int i), (2, .int b)] [] w (cEnd w (mPut i b S)) := by
  obtain ⟨nm, by_, fs, im, op, pl, tk⟩ := S
  have h0 := h
  obtain ⟨h1, hnm, hby, hpk, ⟨dr, hdr⟩, ⟨cu, li, har⟩, haw, ⟨hop, hop6, hopk⟩, ⟨md, hmd⟩, htk⟩ := h
  have h40 : w.1 40 = _ := har
  have him := haw.2.2
  have h600 := him.2.1
  have hr := him.obj
  refine e_iload_n dd_AB_put_0 rfl ?_
  refine e_if_lt (tgt := 25) dd_AB_put_1 (by decide) (fun c1 => ?_) (fun c1 => ?_)
  · refine e_iconst (v := -1) dd_AB_put_25 (by decide) ?_
    exact e_iret dd_AB_put_26 rfl (cEnd_of (q := (_, (nm, by_, fs, im, op, pl, tk))) (by simp only [mPut]; rw [if_neg (fun h9 => absurd c1 (Int32.not_lt.mpr h9.1.1))]) rfl h0 rG.rf)
  · refine e_iload_n dd_AB_put_4 rfl ?_
    refine e_aload_n dd_AB_put_5 rfl ?_
    refine e_get dd_AB_put_6 kf_AB_31 h1 rfl ?_
    refine e_get dd_AB_put_9 kf_AB_84 h40 rfl ?_
    refine e_get dd_AB_put_12 kf_AB_48 hr rfl ?_
    refine e_icmp_gt (tgt := 25) dd_AB_put_15 (by decide) (fun c15 => ?_) (fun c15 => ?_)
    · refine e_iconst (v := -1) dd_AB_put_25 (by decide) ?_
      exact e_iret dd_AB_put_26 rfl (cEnd_of (q := (_, (nm, by_, fs, im, op, pl, tk))) (by simp only [mPut]; rw [if_neg (fun h9 => absurd c15 (Int32.not_lt.mpr h9.1.2))]) rfl h0 rG.rf)
    · refine e_iload_n dd_AB_put_18 rfl ?_
      refine e_callSp (d1 := rr_AB_isByte) (As := [.int b]) (st := []) dd_AB_put_19 km_AB_52 (by decide) rfl (Nat.le_of_ble_eq_true rfl) (Nat.le_of_ble_eq_true rfl) rfl rfl (c_AB_isByte b) ?_
      refine e_if_ne_b (tgt := 27) dd_AB_put_22 (by decide) (fun c22 => ?_) (fun c22 => ?_)
      · obtain ⟨b, hb, rfl⟩ := isBI_n c22
        obtain ⟨k, hk, rfl, ek⟩ := nI_self c1
        have eb : (nI b).toNatClampNeg = b := nI_clamp (by omega)
        have hkl : k ≤ im.length := (nI_leI hk (by omega)).mp (Int32.not_lt.mp c15)
        have hin : (0 ≤ nI k ∧ nI k ≤ nI im.length) ∧ isBI (nI b) = true := ⟨⟨Int32.not_lt.mp c1, Int32.not_lt.mp c15⟩, c22⟩
        refine e_iload_n dd_AB_put_27 rfl ?_
        refine e_aload_n dd_AB_put_28 rfl ?_
        refine e_get dd_AB_put_29 kf_AB_31 h1 rfl ?_
        refine e_get dd_AB_put_32 kf_AB_84 h40 rfl ?_
        refine e_get dd_AB_put_35 kf_AB_48 hr rfl ?_
        refine e_icmp_ge_n (tgt := 56) dd_AB_put_38 (by decide) (by omega) (by omega) (fun c38 => ?_) (fun c38 => ?_)
        · have e9 : k = im.length := by omega
          subst e9
          have k0 := c_Row_append (G := G) him hb
          refine e_aload_n dd_AB_put_56 rfl ?_
          refine e_get dd_AB_put_57 kf_AB_31 h1 rfl ?_
          refine e_get dd_AB_put_60 kf_AB_84 h40 rfl ?_
          refine e_iload_n dd_AB_put_63 rfl ?_
          by_cases c6 : im.length < 600
          · rw [if_pos c6, decide_eq_true c6] at k0
            refine e_callVi (d1 := rr_Row_append) (As := [.int (nI b)]) (st := []) dd_AB_put_64 km_AB_45 hr rfl (by decide) rfl (Nat.le_of_ble_eq_true rfl) (Nat.le_of_ble_eq_true rfl) rfl rfl (k0) (fun w1 k1 => ?_)
            refine e_if_ne_b (tgt := 73) dd_AB_put_67 (by decide) (fun _ => ?_) (fun h9 => absurd h9 (by decide))
            have h1 := (k1.1.2 1 (by decide) (by decide)).trans h1
            have har := (k1.1.2 40 (by decide) (by decide)).trans har
            have h40 := har
            refine e_aload_n dd_AB_put_73 rfl ?_
            refine e_get dd_AB_put_74 kf_AB_31 h1 rfl ?_
            refine e_callVv (d1 := rr_Ar_close) (As := []) (st := []) dd_AB_put_77 km_AB_90 h40 rfl (by decide) rfl (Nat.le_of_ble_eq_true rfl) (Nat.le_of_ble_eq_true rfl) rfl rfl (c_Ar_close har) (fun w8 k8 => ?_)
            have h1 := (k8.1.2 1 (by decide) (by decide)).trans h1
            have h40 := k8.2
            have him2 := k1.2.S40 k8.1 (by decide) (by decide)
            have hr := him2.obj
            have hG : rG w w8 40 43 := (k1.1.G (by decide) (by decide)).tr (k8.1.G (by decide) (by decide))
            have hW2 : aW w8 (im ++ [b]) := by
              obtain ⟨⟨g, h43, hg⟩, hE, -⟩ := haw
              refine ⟨⟨g, (hG.2 43 (by omega)).trans h43, hg⟩, fun i hi => ?_, him2⟩
              obtain ⟨⟨m, a, s, n, k, h5⟩, nm, h6⟩ := hE i hi
              exact ⟨⟨m, a, s, n, k, (hG.2 _ (by omega)).trans h5⟩, nm, h6.G hG (by omega) (by omega)⟩
            refine e_aload_n dd_AB_put_80 rfl ?_
            refine e_get dd_AB_put_81 kf_AB_31 h1 rfl ?_
            refine e_get dd_AB_put_84 kf_AB_84 h40 rfl ?_
            refine e_get dd_AB_put_87 kf_AB_48 hr rfl ?_
            exact e_iret dd_AB_put_90 rfl (cEnd_of (q := (nI (im.length + 1), (nm, by_, fs, im ++ [b], [], pl, tk))) (by simp only [mPut]; rw [if_pos hin, ek, if_neg (by omega), if_pos c6, eb]) (by simp) ⟨h1, hnm.G hG (by omega) (by omega), hby.G hG (by omega) (by omega), hpk.keep (fun j _ _ => hG.2 j (by omega)), ⟨dr, hdr.G hG (by omega) (by omega)⟩, ⟨cu, li, h40⟩, hW2, hopN, ⟨md, hmd.G hG (by omega) (by omega)⟩, htk.G hG (by omega) (by omega)⟩ (hG.wide (by decide) (by decide)))
          · rw [if_neg c6, decide_eq_false c6] at k0
            refine e_callVi (d1 := rr_Row_append) (As := [.int (nI b)]) (st := []) dd_AB_put_64 km_AB_45 hr rfl (by decide) rfl (Nat.le_of_ble_eq_true rfl) (Nat.le_of_ble_eq_true rfl) rfl rfl (k0) (fun w1 k1 => ?_)
            refine e_if_ne_b (tgt := 73) dd_AB_put_67 (by decide) (fun h9 => absurd h9 (by decide)) (fun _ => ?_)
            refine e_bipush (v := -2) dd_AB_put_70 (by decide) ?_
            have hG := k1.1.G (lo := 41) (hi := 43) (by decide) (by decide)
            have hW2 : aW w1 im := by
              obtain ⟨⟨g, h43, hg⟩, hE, -⟩ := haw
              refine ⟨⟨g, (hG.2 43 (by omega)).trans h43, hg⟩, fun i hi => ?_, k1.2⟩
              obtain ⟨⟨m, a, s, n, k, h5⟩, nm, h6⟩ := hE i hi
              exact ⟨⟨m, a, s, n, k, (hG.2 _ (by omega)).trans h5⟩, nm, h6.G hG (by omega) (by omega)⟩
            exact e_iret dd_AB_put_72 rfl (cEnd_of (q := (-2, (nm, by_, fs, im, op, pl, tk))) (by simp only [mPut]; rw [if_pos hin, ek, if_neg (by omega), if_neg c6]) rfl ⟨(hG.2 1 (by omega)).trans h1, hnm.G hG (by omega) (by omega), hby.G hG (by omega) (by omega), hpk.keep (fun j _ _ => hG.2 j (by omega)), ⟨dr, hdr.G hG (by omega) (by omega)⟩, ⟨cu, li, (hG.2 40 (by omega)).trans har⟩, hW2, ⟨op_G hop hop6 (fun j _ _ => hG.2 j (by omega)), hop6, hopk⟩, ⟨md, hmd.G hG (by omega) (by omega)⟩, htk.G hG (by omega) (by omega)⟩ (hG.wide (by decide) (by decide)))
        · refine e_aload_n dd_AB_put_41 rfl ?_
          refine e_get dd_AB_put_42 kf_AB_31 h1 rfl ?_
          refine e_get dd_AB_put_45 kf_AB_84 h40 rfl ?_
          refine e_iload_n dd_AB_put_48 rfl ?_
          refine e_iload_n dd_AB_put_49 rfl ?_
          refine e_callVv (d1 := rr_Row_set) (As := [.int (nI k), .int (nI b)]) (st := []) dd_AB_put_50 km_AB_93 hr rfl (by decide) rfl (Nat.le_of_ble_eq_true rfl) (Nat.le_of_ble_eq_true rfl) rfl rfl (c_Row_set him c38 hb) (fun w1 k1 => ?_)
          refine e_goto (tgt := 73) dd_AB_put_53 (by decide) ?_
          have h1 := (k1.1.2 1 (by decide) (by decide)).trans h1
          have har := (k1.1.2 40 (by decide) (by decide)).trans har
          have h40 := har
          refine e_aload_n dd_AB_put_73 rfl ?_
          refine e_get dd_AB_put_74 kf_AB_31 h1 rfl ?_
          refine e_callVv (d1 := rr_Ar_close) (As := []) (st := []) dd_AB_put_77 km_AB_90 h40 rfl (by decide) rfl (Nat.le_of_ble_eq_true rfl) (Nat.le_of_ble_eq_true rfl) rfl rfl (c_Ar_close har) (fun w8 k8 => ?_)
          have h1 := (k8.1.2 1 (by decide) (by decide)).trans h1
          have h40 := k8.2
          have him2 := k1.2.S40 k8.1 (by decide) (by decide)
          have hr := him2.obj
          have hG : rG w w8 40 43 := (k1.1.G (by decide) (by decide)).tr (k8.1.G (by decide) (by decide))
          have hW2 : aW w8 (im.set k b) := by
            obtain ⟨⟨g, h43, hg⟩, hE, -⟩ := haw
            refine ⟨⟨g, (hG.2 43 (by omega)).trans h43, hg⟩, fun i hi => ?_, him2⟩
            obtain ⟨⟨m, a, s, n, k, h5⟩, nm, h6⟩ := hE i hi
            exact ⟨⟨m, a, s, n, k, (hG.2 _ (by omega)).trans h5⟩, nm, h6.G hG (by omega) (by omega)⟩
          refine e_aload_n dd_AB_put_80 rfl ?_
          refine e_get dd_AB_put_81 kf_AB_31 h1 rfl ?_
          refine e_get dd_AB_put_84 kf_AB_84 h40 rfl ?_
          refine e_get dd_AB_put_87 kf_AB_48 hr rfl ?_
          exact e_iret dd_AB_put_90 rfl (cEnd_of (q := (nI im.length, (nm, by_, fs, im.set k b, [], pl, tk))) (by simp only [mPut]; rw [if_pos hin, ek, if_pos c38, eb]) (by simp) ⟨h1, hnm.G hG (by omega) (by omega), hby.G hG (by omega) (by omega), hpk.keep (fun j _ _ => hG.2 j (by omega)), ⟨dr, hdr.G hG (by omega) (by omega)⟩, ⟨cu, li, h40⟩, hW2, hopN, ⟨md, hmd.G hG (by omega) (by omega)⟩, htk.G hG (by omega) (by omega)⟩ (hG.wide (by decide) (by decide)))
      · refine e_iconst (v := -1) dd_AB_put_25 (by decide) ?_
        exact e_iret dd_AB_put_26 rfl (cEnd_of (q := (_, (nm, by_, fs, im, op, pl, tk))) (by simp only [mPut]; rw [if_neg (fun h9 => by rw [c22] at h9; exact absurd h9.2 (by decide))]) rfl h0 rG.rf)
theorem opn_F {im : List Nat} {e : Int32 × Nat} (h : rb im 0 = e.1) : True := trivial
theorem rdP_end {w w2 : ab_W} {nm by_ : List Nat} {fs : List FW} {im : List Nat} {op : List FO} {pl : Int32} {tk : List Nat} (h : cRep w (nm, by_, fs, im, op, pl, tk)) {o : Rd (List FO)} (ho : opn im = o) {v : Option Value} (hP : rdP o (fun a => a.length) (opF w im) (opS w im) v w2) : cEnd w (mOpen (nm, by_, fs, im, op, pl, tk)) v w2 := by
  obtain ⟨h1, hnm, hby, hpk, ⟨dr, hdr⟩, ⟨cu, li, har⟩, haw, ⟨hop, hop6, hopk⟩, ⟨md, hmd⟩, htk⟩ := h
  rcases o with e | a
  · obtain ⟨hv, hG, ⟨cu2, li2, har2⟩, hW⟩ := hP
    have em : mOpen (nm, by_, fs, im, op, pl, tk) = (e.1, (nm, by_, fs, im, [], nI e.2, tk)) := by simp only [mOpen]; rw [ho]
    rw [em, hv]
    exact ⟨rfl, ⟨(hG.2 1 (by omega)).trans h1, hnm.G hG (by omega) (by omega), hby.G hG (by omega) (by omega), hpk.keep (fun j _ _ => hG.2 j (by omega)), ⟨dr, hdr.G hG (by omega) (by omega)⟩, ⟨cu2, li2, har2⟩, hW, hopN, ⟨md, hmd.G hG (by omega) (by omega)⟩, htk.G hG (by omega) (by omega)⟩, hG.wide (by decide) (by decide)⟩
  · obtain ⟨hv, hG, ⟨cu2, li2, har2⟩, hW, hacc, h6, hok⟩ := hP
    have em : mOpen (nm, by_, fs, im, op, pl, tk) = (nI a.length, (nm, by_, fs, im, a, -1, tk)) := by simp only [mOpen]; rw [ho]
    rw [em, hv]
    exact ⟨rfl, ⟨(hG.2 1 (by omega)).trans h1, hnm.G hG (by omega) (by omega), hby.G hG (by omega) (by omega), hpk.keep (fun j _ _ => hG.2 j (by omega)), ⟨dr, hdr.G hG (by omega) (by omega)⟩, ⟨cu2, li2, har2⟩, hW, ⟨hacc, h6, hok⟩, ⟨md, hmd.G hG (by omega) (by omega)⟩, htk.G hG (by omega) (by omega)⟩, hG.wide (by decide) (by decide)⟩
set_option maxRecDepth 100000 in
set_option maxHeartbeats 4000000 in
theorem c_AB_open (h : cRep w S) : ab_E G mm_AB_open rr_AB_open 0 [(0, .ref 1)] [] w (cEnd w (mOpen S)) := by
  obtain ⟨nm, by_, fs, im, op, pl, tk⟩ := S
  have h0 := h
  obtain ⟨h1, hnm, hby, hpk, ⟨dr, hdr⟩, ⟨cu, li, har⟩, haw, ⟨hop, hop6, hopk⟩, ⟨md, hmd⟩, htk⟩ := h
  have h40 : w.1 40 = _ := har
  have him := haw.2.2
  have hr := him.obj
  refine e_aload_n dd_AB_open_0 rfl ?_
  refine e_get dd_AB_open_1 kf_AB_31 h1 rfl ?_
  refine e_get dd_AB_open_4 kf_AB_84 h40 rfl ?_
  refine e_iconst_n 0 dd_AB_open_7 (by decide) ?_
  refine e_callVp (d1 := rr_Row_at) (As := [.int (nI 0)]) (st := []) dd_AB_open_8 km_AB_97 hr rfl (by decide) rfl (Nat.le_of_ble_eq_true rfl) (Nat.le_of_ble_eq_true rfl) rfl rfl (c_Row_atn him (j := 0) (by decide)) ?_
  by_cases c67 : rb im 0 = nI 67
  · refine e_lookup (off := 33) (tgt := 44) dd_AB_open_11 (by decide) (by rw [c67]; decide) (by decide) ?_
    refine e_aload_n dd_AB_open_44 rfl ?_
    refine e_get dd_AB_open_45 kf_AB_31 h1 rfl ?_
    refine e_callV (d1 := rr_Ar_openChain) (As := []) (st := []) dd_AB_open_48 km_AB_101 h40 rfl (by decide) rfl (Nat.le_of_ble_eq_true rfl) (Nat.le_of_ble_eq_true rfl) (fun v hv => by cases hv) rfl (c_Ar_openChain har haw) (fun r1 w1 hP => ?_)
    have hE := rdP_end h0 (by rw [opn, if_pos (Or.inl c67)]) hP
    obtain ⟨hv, hE2⟩ := id hE
    rw [hv] at hE ⊢
    exact e_iret dd_AB_open_51 rfl hE
  · by_cases c69 : rb im 0 = nI 69
    · refine e_lookup (off := 33) (tgt := 44) dd_AB_open_11 (by decide) (by rw [c69]; decide) (by decide) ?_
      refine e_aload_n dd_AB_open_44 rfl ?_
      refine e_get dd_AB_open_45 kf_AB_31 h1 rfl ?_
      refine e_callV (d1 := rr_Ar_openChain) (As := []) (st := []) dd_AB_open_48 km_AB_101 h40 rfl (by decide) rfl (Nat.le_of_ble_eq_true rfl) (Nat.le_of_ble_eq_true rfl) (fun v hv => by cases hv) rfl (c_Ar_openChain har haw) (fun r1 w1 hP => ?_)
      have hE := rdP_end h0 (by rw [opn, if_pos (Or.inr c69)]) hP
      obtain ⟨hv, hE2⟩ := id hE
      rw [hv] at hE ⊢
      exact e_iret dd_AB_open_51 rfl hE
    · by_cases c73 : rb im 0 = nI 73
      · refine e_lookup (off := 41) (tgt := 52) dd_AB_open_11 (by decide) (by rw [c73]; decide) (by decide) ?_
        refine e_aload_n dd_AB_open_52 rfl ?_
        refine e_get dd_AB_open_53 kf_AB_31 h1 rfl ?_
        refine e_callV (d1 := rr_Ar_openIndex) (As := []) (st := []) dd_AB_open_56 km_AB_105 h40 rfl (by decide) rfl (Nat.le_of_ble_eq_true rfl) (Nat.le_of_ble_eq_true rfl) (fun v hv => by cases hv) rfl (c_Ar_openIndex har haw) (fun r1 w1 hP => ?_)
        have hE := rdP_end h0 (by rw [opn, if_neg (fun h9 => h9.elim c67 c69), if_pos c73]) hP
        obtain ⟨hv, hE2⟩ := id hE
        rw [hv] at hE ⊢
        exact e_iret dd_AB_open_59 rfl hE
      · refine e_lookup (off := 49) (tgt := 60) dd_AB_open_11 (by decide) (by rw [show (#[(67, 33), (69, 33), (73, 41)] : Array (Int × Int)).toList = [(67, 33), (69, 33), (73, 41)] from rfl, lv_osw c67 (by decide), lv_osw c69 (by decide), lv_osw c73 (by decide)]; rfl) (by decide) ?_
        refine e_aload_n dd_AB_open_60 rfl ?_
        refine e_get dd_AB_open_61 kf_AB_31 h1 rfl ?_
        refine e_bipush (v := -4) dd_AB_open_64 (by decide) ?_
        refine e_iconst_n 0 dd_AB_open_66 (by decide) ?_
        refine e_callVi (d1 := rr_Ar_stop) (As := [.int (-4), .int (nI 0)]) (st := []) dd_AB_open_67 km_AB_108 h40 rfl (by decide) rfl (Nat.le_of_ble_eq_true rfl) (Nat.le_of_ble_eq_true rfl) rfl rfl (c_Ar_stopF har (-4)) (fun w1 k1 => ?_)
        have hE := rdP_end (w2 := w1) h0 (o := .inl (-4, 0)) (by rw [opn, if_neg (fun h9 => h9.elim c67 c69), if_neg c73]) (v := some (.int (-4))) ⟨rfl, (k1.1.X 0).G (by decide), k1.2, haw.S k1.1⟩
        exact e_iret dd_AB_open_70 rfl hE
end AB
