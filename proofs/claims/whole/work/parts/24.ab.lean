/-! The model: a state, and what each call answers and makes of it. Name, bytes, files to be packed, image, open files, place, taken bytes. -/
abbrev CS : Type := List Nat × List Nat × List FW × List Nat × List FO × Int32 × List Nat
def mName (x : Int32) : CS → Int32 × CS
  | (nm, by_, fs, im, op, pl, tk) => if nchI x = true then (if nm.length < 8 then (nI (nm.length + 1), (nm ++ [x.toNatClampNeg], by_, fs, im, op, pl, tk)) else (-2, (nm, by_, fs, im, op, pl, tk))) else (-1, (nm, by_, fs, im, op, pl, tk))
def mData (b n : Int32) : CS → Int32 × CS
  | (nm, by_, fs, im, op, pl, tk) => if isBI b = true ∧ nI 1 ≤ n ∧ n ≤ nI 60 then (if by_.length + n.toNatClampNeg ≤ 60 then (nI (by_.length + n.toNatClampNeg), (nm, by_ ++ List.replicate n.toNatClampNeg b.toNatClampNeg, fs, im, op, pl, tk)) else (-2, (nm, by_, fs, im, op, pl, tk))) else (-1, (nm, by_, fs, im, op, pl, tk))
def mAdd (m : Int32) : CS → Int32 × CS
  | (nm, by_, fs, im, op, pl, tk) => if (0 ≤ m ∧ m ≤ nI 2) ∧ nm.length ≠ 0 then (if fs.length < 6 then (nI fs.length, ([], [], fs ++ [(nm, m.toNatClampNeg, by_)], im, op, pl, tk)) else (-2, (nm, by_, fs, im, op, pl, tk))) else (-1, (nm, by_, fs, im, op, pl, tk))
def pkd (f : Int32) (fs : List FW) : List Nat := if f = 0 then chain fs else index fs
def mPack (f : Int32) : CS → Int32 × CS
  | (nm, by_, fs, im, op, pl, tk) => if f = 0 ∨ f = nI 1 then (if (pkd f fs).length ≤ 600 then (nI (pkd f fs).length, (nm, by_, [], pkd f fs, [], pl, tk)) else (-2, (nm, by_, fs, im, op, pl, tk))) else (-1, (nm, by_, fs, im, op, pl, tk))
def mPut (i b : Int32) : CS → Int32 × CS
  | (nm, by_, fs, im, op, pl, tk) => if (0 ≤ i ∧ i ≤ nI im.length) ∧ isBI b = true then (if i.toNatClampNeg < im.length then (nI im.length, (nm, by_, fs, im.set i.toNatClampNeg b.toNatClampNeg, [], pl, tk)) else if im.length < 600 then (nI (im.length + 1), (nm, by_, fs, im ++ [b.toNatClampNeg], [], pl, tk)) else (-2, (nm, by_, fs, im, op, pl, tk))) else (-1, (nm, by_, fs, im, op, pl, tk))
def mCut (n : Int32) : CS → Int32 × CS
  | (nm, by_, fs, im, op, pl, tk) => if 0 ≤ n ∧ n ≤ nI im.length then (n, (nm, by_, fs, im.take n.toNatClampNeg, [], pl, tk)) else (-1, (nm, by_, fs, im, op, pl, tk))
def mImage (i : Int32) (S : CS) : Int32 × CS := (rbI S.2.2.2.1 i, S)
def opn (im : List Nat) : Rd (List FO) := if rb im 0 = nI 67 ∨ rb im 0 = nI 69 then opC im else if rb im 0 = nI 73 then opX im else .inl (-4, 0)
def mOpen : CS → Int32 × CS
  | (nm, by_, fs, im, _, _, tk) => match opn im with
    | .inl e => (e.1, (nm, by_, fs, im, [], nI e.2, tk))
    | .inr a => (nI a.length, (nm, by_, fs, im, a, -1, tk))
def mPlace (S : CS) : Int32 × CS := (S.2.2.2.2.2.1, S)
def mTake (f : Int32) : CS → Int32 × CS
  | (nm, by_, fs, im, op, pl, tk) => if 0 ≤ f ∧ f < nI op.length then (match op[f.toNatClampNeg]? with
    | none => (-1, (nm, by_, fs, im, op, pl, tk))
    | some q => if safe q.1 = false then (-6, (nm, by_, fs, im, op, pl, tk)) else if nbF op q.1 f.toNatClampNeg 0 = true then (-8, (nm, by_, fs, im, op, pl, tk)) else (match unsq q.2.1 im q.2.2.1 (q.2.2.1 + q.2.2.2.1) with
      | none => (-5, (nm, by_, fs, im, op, pl, tk))
      | some ys => if ys.length ≠ q.2.2.2.2.1 then (-5, (nm, by_, fs, im, op, pl, tk)) else if crc ys ≠ q.2.2.2.2.2 then (-7, (nm, by_, fs, im, op, pl, tk)) else (nI ys.length, (nm, by_, fs, im, op, pl, ys)))) else (-1, (nm, by_, fs, im, op, pl, tk))
def mTaken (i : Int32) (S : CS) : Int32 × CS := (rbI S.2.2.2.2.2.2 i, S)
def mFile (f x : Int32) (S : CS) : Int32 × CS := (if 0 ≤ f ∧ f < nI S.2.2.2.2.1.length then (match S.2.2.2.2.1[f.toNatClampNeg]? with
  | none => -1
  | some q => tl q.1 q.2.1 q.2.2.1 q.2.2.2.1 q.2.2.2.2.1 q.2.2.2.2.2 x) else -1, S)
def mCount (x : Int32) (S : CS) : Int32 × CS := (if x = 0 then nI S.2.2.1.length else if x = 1 then nI S.2.2.2.1.length else if x = 2 then nI S.2.2.2.2.1.length else if x = 3 then nI S.1.length else if x = 4 then nI S.2.1.length else if x = 5 then nI S.2.2.2.2.2.2.length else -1, S)
/-- the class's objects hold a state -/
def cRep (w : ab_W) : CS → Prop
  | (nm, by_, fs, im, op, pl, tk) => w.1 1 = some (.inr (0, [.ref 2, .ref 4, .ref 6, .ref 40, .ref 65, .ref 67])) ∧ cR w 2 3 8 nm ∧ cR w 4 5 60 by_ ∧ cPk w fs ∧ (∃ dr, cR w 38 39 823 dr) ∧ (∃ cu li, aO w op.length pl cu li) ∧ aW w im ∧ ((∀ j q, op[j]? = some q → fOf w j q) ∧ op.length ≤ 6 ∧ ∀ q ∈ op, foOK im.length q) ∧ (∃ md, cR w 65 66 60 md) ∧ cR w 67 68 60 tk
theorem aW.G {w w2 : ab_W} {im : List Nat} (h : aW w im) (hf : ∀ j, 41 ≤ j → j < 65 → w2.1 j = w.1 j) : aW w2 im := by
  obtain ⟨⟨g, h1, h2⟩, h3, h4⟩ := h
  refine ⟨⟨g, (hf 43 (by decide) (by decide)).trans h1, h2⟩, fun i hi => ?_, h4.keep (hf 41 (by decide) (by decide)) (hf 42 (by decide) (by decide))⟩
  obtain ⟨⟨m, a, s, n, k, h5⟩, nm, h6⟩ := h3 i hi
  exact ⟨⟨m, a, s, n, k, (hf _ (by omega) (by omega)).trans h5⟩, nm, h6.keep (hf _ (by omega) (by omega)) (hf _ (by omega) (by omega))⟩
theorem op_G {w w2 : ab_W} {op : List FO} (h : ∀ (j : Nat) (q : FO), op[j]? = some q → fOf w j q) (h6 : op.length ≤ 6) (hf : ∀ j, 44 ≤ j → j < 65 → w2.1 j = w.1 j) : ∀ (j : Nat) (q : FO), op[j]? = some q → fOf w2 j q := fun j q hq => by
  have hj : j < op.length := (List.getElem?_eq_some_iff.mp hq).1
  exact ⟨(hf _ (by omega) (by omega)).trans (h j q hq).1, cR.keep (h j q hq).2 (hf _ (by omega) (by omega)) (hf _ (by omega) (by omega))⟩
section AB
variable {G : ab_G} {w : ab_W} {S : CS}
/-- a call's contract -/
def cEnd (w : ab_W) (p : Int32 × CS) : Option Value → ab_W → Prop := pI p.1 fun w2 => cRep w2 p.2 ∧ rG w w2 1 69
theorem cEnd_of {w w2 : ab_W} {p q : Int32 × CS} {y : Int32} (e : p = q) (hy : y = q.1) (hr : cRep w2 q.2) (hG : rG w w2 1 69) : cEnd w p (some (.int y)) w2 := by
  rw [e]; exact ⟨by rw [hy], hr, hG⟩
theorem nI_self {x : Int32} (h : ¬ x < 0) : ∃ j : Nat, j < 2 ^ 31 ∧ x = nI j ∧ x.toNatClampNeg = j := by
  obtain ⟨j, hj, e⟩ := nI_of h
  exact ⟨j, hj, e, by rw [e]; exact nI_clamp hj⟩
set_option maxRecDepth 100000 in
set_option maxHeartbeats 4000000 in
theorem c_AB_name (h : cRep w S) (x : Int32) : ab_E G mm_AB_name rr_AB_name 0 [(0, .ref 1), (1, .int x)] [] w (cEnd w (mName x S)) := by
  obtain ⟨nm, by_, fs, im, op, pl, tk⟩ := S
  have h0 := h
  obtain ⟨h1, hnm, hby, hpk, ⟨dr, hdr⟩, ⟨cu, li, har⟩, haw, ⟨hop, hop6, hopk⟩, ⟨md, hmd⟩, htk⟩ := h
  have hr := hnm.obj
  have hl8 := hnm.2.1
  refine e_iload_n dd_AB_name_0 rfl ?_
  refine e_callSp (d1 := rr_AB_isNameCharacter) (As := [.int x]) (st := []) dd_AB_name_1 km_AB_41 (by decide) rfl (Nat.le_of_ble_eq_true rfl) (Nat.le_of_ble_eq_true rfl) rfl rfl (c_AB_isNameCharacter x) ?_
  refine e_if_ne_b (tgt := 9) dd_AB_name_4 (by decide) (fun c4 => ?_) (fun c4 => ?_)
  · obtain ⟨b, hb, rfl, hnb⟩ := nchI_b c4
    have ec : (nI b).toNatClampNeg = b := nI_clamp (by omega)
    have k0 := c_Row_append (G := G) hnm hb
    by_cases c8 : nm.length < 8
    · rw [if_pos c8, decide_eq_true c8] at k0
      refine e_aload_n dd_AB_name_9 rfl ?_
      refine e_get dd_AB_name_10 kf_AB_14 h1 rfl ?_
      refine e_iload_n dd_AB_name_13 rfl ?_
      refine e_callVi (d1 := rr_Row_append) (As := [.int (nI b)]) (st := []) dd_AB_name_14 km_AB_45 hr rfl (by decide) rfl (Nat.le_of_ble_eq_true rfl) (Nat.le_of_ble_eq_true rfl) rfl rfl (k0) (fun w1 k1 => ?_)
      refine e_if_eq_b (tgt := 30) dd_AB_name_17 (by decide) (fun h9 => absurd h9 (by decide)) (fun _ => ?_)
      have h1 := (k1.1.2 1 (by decide) (by decide)).trans h1
      have hr := k1.2.obj
      have hG := k1.1.G (lo := 2) (hi := 4) (by decide) (by decide)
      refine e_aload_n dd_AB_name_20 rfl ?_
      refine e_get dd_AB_name_21 kf_AB_14 h1 rfl ?_
      refine e_get dd_AB_name_24 kf_AB_48 hr rfl ?_
      refine e_goto (tgt := 32) dd_AB_name_27 (by decide) ?_
      exact e_iret dd_AB_name_32 rfl (cEnd_of (q := (nI (nm.length + 1), (nm ++ [b], by_, fs, im, op, pl, tk))) (by simp only [mName, if_pos c4, if_pos c8, ec]) (by simp) ⟨h1, k1.2, hby.G hG (by omega) (by omega), hpk.keep (fun j _ _ => hG.2 j (by omega)), ⟨dr, hdr.G hG (by omega) (by omega)⟩, ⟨cu, li, (hG.2 40 (by omega)).trans har⟩, haw.G (fun j _ _ => hG.2 j (by omega)), ⟨op_G hop hop6 (fun j _ _ => hG.2 j (by omega)), hop6, hopk⟩, ⟨md, hmd.G hG (by omega) (by omega)⟩, htk.G hG (by omega) (by omega)⟩ (hG.wide (by decide) (by decide)))
    · rw [if_neg c8, decide_eq_false c8] at k0
      refine e_aload_n dd_AB_name_9 rfl ?_
      refine e_get dd_AB_name_10 kf_AB_14 h1 rfl ?_
      refine e_iload_n dd_AB_name_13 rfl ?_
      refine e_callVi (d1 := rr_Row_append) (As := [.int (nI b)]) (st := []) dd_AB_name_14 km_AB_45 hr rfl (by decide) rfl (Nat.le_of_ble_eq_true rfl) (Nat.le_of_ble_eq_true rfl) rfl rfl (k0) (fun w1 k1 => ?_)
      refine e_if_eq_b (tgt := 30) dd_AB_name_17 (by decide) (fun _ => ?_) (fun h9 => absurd h9 (by decide))
      have h1 := (k1.1.2 1 (by decide) (by decide)).trans h1
      have hG := k1.1.G (lo := 2) (hi := 4) (by decide) (by decide)
      refine e_bipush (v := -2) dd_AB_name_30 (by decide) ?_
      exact e_iret dd_AB_name_32 rfl (cEnd_of (q := (-2, (nm, by_, fs, im, op, pl, tk))) (by simp only [mName, if_pos c4, if_neg c8]) rfl ⟨h1, k1.2, hby.G hG (by omega) (by omega), hpk.keep (fun j _ _ => hG.2 j (by omega)), ⟨dr, hdr.G hG (by omega) (by omega)⟩, ⟨cu, li, (hG.2 40 (by omega)).trans har⟩, haw.G (fun j _ _ => hG.2 j (by omega)), ⟨op_G hop hop6 (fun j _ _ => hG.2 j (by omega)), hop6, hopk⟩, ⟨md, hmd.G hG (by omega) (by omega)⟩, htk.G hG (by omega) (by omega)⟩ (hG.wide (by decide) (by decide)))
  · refine e_iconst (v := -1) dd_AB_name_7 (by decide) ?_
    exact e_iret dd_AB_name_8 rfl (cEnd_of (q := (_, (nm, by_, fs, im, op, pl, tk))) (by simp only [mName, if_neg (show ¬ nchI x = true by rw [c4]; decide)]) rfl h0 rG.rf)
set_option maxRecDepth 100000 in
set_option maxHeartbeats 4000000 in
theorem c_AB_data (h : cRep w S) (b n : Int32) : ab_E G mm_AB_data rr_AB_data 0 [(0, .ref 1), (1, .int b), (2, .int n)] [] w (cEnd w (mData b n S)) := by
  obtain ⟨nm, by_, fs, im, op, pl, tk⟩ := S
  have h0 := h
  obtain ⟨h1, hnm, hby, hpk, ⟨dr, hdr⟩, ⟨cu, li, har⟩, haw, ⟨hop, hop6, hopk⟩, ⟨md, hmd⟩, htk⟩ := h
  have hr := hby.obj
  refine e_iload_n dd_AB_data_0 rfl ?_
  refine e_callSp (d1 := rr_AB_isByte) (As := [.int b]) (st := []) dd_AB_data_1 km_AB_52 (by decide) rfl (Nat.le_of_ble_eq_true rfl) (Nat.le_of_ble_eq_true rfl) rfl rfl (c_AB_isByte b) ?_
  refine e_if_eq_b (tgt := 18) dd_AB_data_4 (by decide) (fun c4 => ?_) (fun c4 => ?_)
  · refine e_iconst (v := -1) dd_AB_data_18 (by decide) ?_
    exact e_iret dd_AB_data_19 rfl (cEnd_of (q := (_, (nm, by_, fs, im, op, pl, tk))) (by simp only [mData]; rw [if_neg (fun h9 => by rw [c4] at h9; exact absurd h9.1 (by decide))]) rfl h0 rG.rf)
  · refine e_iload_n dd_AB_data_7 rfl ?_
    refine e_iconst_n 1 dd_AB_data_8 (by decide) ?_
    refine e_icmp_lt (tgt := 18) dd_AB_data_9 (by decide) (fun c9 => ?_) (fun c9 => ?_)
    · refine e_iconst (v := -1) dd_AB_data_18 (by decide) ?_
      exact e_iret dd_AB_data_19 rfl (cEnd_of (q := (_, (nm, by_, fs, im, op, pl, tk))) (by simp only [mData]; rw [if_neg (fun h9 => absurd c9 (Int32.not_lt.mpr h9.2.1))]) rfl h0 rG.rf)
    · refine e_iload_n dd_AB_data_12 rfl ?_
      refine e_bipush_n 60 dd_AB_data_13 (by decide) ?_
      refine e_icmp_le (tgt := 20) dd_AB_data_15 (by decide) (fun c15 => ?_) (fun c15 => ?_)
      · obtain ⟨b, hb, rfl⟩ := isBI_n c4
        obtain ⟨n, hn, rfl⟩ := nI_of2 (n := 60) (M := nI 60) (by decide) (fun h9 => c9 (Int32.lt_trans h9 (by decide))) c15
        have eb : (nI b).toNatClampNeg = b := nI_clamp (by omega)
        have en : (nI n).toNatClampNeg = n := nI_clamp (by omega)
        have hin : isBI (nI b) = true ∧ nI 1 ≤ nI n ∧ nI n ≤ nI 60 := ⟨c4, Int32.not_lt.mp c9, c15⟩
        have k0 := c_Row_appendTimes (G := G) hby hb (t := n) (by omega)
        by_cases c8 : by_.length + n ≤ 60
        · rw [if_pos c8, decide_eq_true c8] at k0
          refine e_aload_n dd_AB_data_20 rfl ?_
          refine e_get dd_AB_data_21 kf_AB_18 h1 rfl ?_
          refine e_iload_n dd_AB_data_24 rfl ?_
          refine e_iload_n dd_AB_data_25 rfl ?_
          refine e_callVi (d1 := rr_Row_appendTimes) (As := [.int (nI b), .int (nI n)]) (st := []) dd_AB_data_26 km_AB_55 hr rfl (by decide) rfl (Nat.le_of_ble_eq_true rfl) (Nat.le_of_ble_eq_true rfl) rfl rfl (k0) (fun w1 k1 => ?_)
          refine e_if_eq_b (tgt := 42) dd_AB_data_29 (by decide) (fun h9 => absurd h9 (by decide)) (fun _ => ?_)
          have h1 := (k1.1.2 1 (by decide) (by decide)).trans h1
          have hr := k1.2.obj
          have hG := k1.1.G (lo := 4) (hi := 6) (by decide) (by decide)
          refine e_aload_n dd_AB_data_32 rfl ?_
          refine e_get dd_AB_data_33 kf_AB_18 h1 rfl ?_
          refine e_get dd_AB_data_36 kf_AB_48 hr rfl ?_
          refine e_goto (tgt := 44) dd_AB_data_39 (by decide) ?_
          exact e_iret dd_AB_data_44 rfl (cEnd_of (q := (nI (by_.length + n), (nm, by_ ++ List.replicate n b, fs, im, op, pl, tk))) (by simp only [mData]; rw [if_pos hin, en, eb, if_pos c8]) (by simp) ⟨h1, hnm.G hG (by omega) (by omega), k1.2, hpk.keep (fun j _ _ => hG.2 j (by omega)), ⟨dr, hdr.G hG (by omega) (by omega)⟩, ⟨cu, li, (hG.2 40 (by omega)).trans har⟩, haw.G (fun j _ _ => hG.2 j (by omega)), ⟨op_G hop hop6 (fun j _ _ => hG.2 j (by omega)), hop6, hopk⟩, ⟨md, hmd.G hG (by omega) (by omega)⟩, htk.G hG (by omega) (by omega)⟩ (hG.wide (by decide) (by decide)))
        · rw [if_neg c8, decide_eq_false c8] at k0
          refine e_aload_n dd_AB_data_20 rfl ?_
          refine e_get dd_AB_data_21 kf_AB_18 h1 rfl ?_
          refine e_iload_n dd_AB_data_24 rfl ?_
          refine e_iload_n dd_AB_data_25 rfl ?_
          refine e_callVi (d1 := rr_Row_appendTimes) (As := [.int (nI b), .int (nI n)]) (st := []) dd_AB_data_26 km_AB_55 hr rfl (by decide) rfl (Nat.le_of_ble_eq_true rfl) (Nat.le_of_ble_eq_true rfl) rfl rfl (k0) (fun w1 k1 => ?_)
          refine e_if_eq_b (tgt := 42) dd_AB_data_29 (by decide) (fun _ => ?_) (fun h9 => absurd h9 (by decide))
          have h1 := (k1.1.2 1 (by decide) (by decide)).trans h1
          have hG := k1.1.G (lo := 4) (hi := 6) (by decide) (by decide)
          refine e_bipush (v := -2) dd_AB_data_42 (by decide) ?_
          exact e_iret dd_AB_data_44 rfl (cEnd_of (q := (-2, (nm, by_, fs, im, op, pl, tk))) (by simp only [mData]; rw [if_pos hin, en, if_neg c8]) rfl ⟨h1, hnm.G hG (by omega) (by omega), k1.2, hpk.keep (fun j _ _ => hG.2 j (by omega)), ⟨dr, hdr.G hG (by omega) (by omega)⟩, ⟨cu, li, (hG.2 40 (by omega)).trans har⟩, haw.G (fun j _ _ => hG.2 j (by omega)), ⟨op_G hop hop6 (fun j _ _ => hG.2 j (by omega)), hop6, hopk⟩, ⟨md, hmd.G hG (by omega) (by omega)⟩, htk.G hG (by omega) (by omega)⟩ (hG.wide (by decide) (by decide)))
      · refine e_iconst (v := -1) dd_AB_data_18 (by decide) ?_
        exact e_iret dd_AB_data_19 rfl (cEnd_of (q := (_, (nm, by_, fs, im, op, pl, tk))) (by simp only [mData]; rw [if_neg (fun h9 => c15 h9.2.2)]) rfl h0 rG.rf)
set_option maxRecDepth 100000 in
set_option maxHeartbeats 4000000 in
theorem c_AB_image (h : cRep w S) (i : Int32) : ab_E G mm_AB_image rr_AB_image 0 [(0, .ref 1), (1, .int i)] [] w (cEnd w (mImage i S)) := by
  obtain ⟨nm, by_, fs, im, op, pl, tk⟩ := S
  have h0 := h
  obtain ⟨h1, hnm, hby, hpk, ⟨dr, hdr⟩, ⟨cu, li, har⟩, haw, ⟨hop, hop6, hopk⟩, ⟨md, hmd⟩, htk⟩ := h
  have h40 : w.1 40 = _ := har
  have hr := haw.2.2.obj
  refine e_aload_n dd_AB_image_0 rfl ?_
  refine e_get dd_AB_image_1 kf_AB_31 h1 rfl ?_
  refine e_get dd_AB_image_4 kf_AB_84 h40 rfl ?_
  refine e_iload_n dd_AB_image_7 rfl ?_
  refine e_callVp (d1 := rr_Row_at) (As := [.int i]) (st := []) dd_AB_image_8 km_AB_97 hr rfl (by decide) rfl (Nat.le_of_ble_eq_true rfl) (Nat.le_of_ble_eq_true rfl) rfl rfl (c_Row_at haw.2.2 i) ?_
  exact e_iret dd_AB_image_11 rfl (cEnd_of (q := (_, (nm, by_, fs, im, op, pl, tk))) rfl rfl h0 rG.rf)
set_option maxRecDepth 100000 in
set_option maxHeartbeats 4000000 in
theorem c_AB_taken (h : cRep w S) (i : Int32) : ab_E G mm_AB_taken rr_AB_taken 0 [(0, .ref 1), (1, .int i)] [] w (cEnd w (mTaken i S)) := by
  obtain ⟨nm, by_, fs, im, op, pl, tk⟩ := S
  have h0 := h
  obtain ⟨h1, hnm, hby, hpk, ⟨dr, hdr⟩, ⟨cu, li, har⟩, haw, ⟨hop, hop6, hopk⟩, ⟨md, hmd⟩, htk⟩ := h
  have hr := htk.obj
  refine e_aload_n dd_AB_taken_0 rfl ?_
  refine e_get dd_AB_taken_1 kf_AB_38 h1 rfl ?_
  refine e_iload_n dd_AB_taken_4 rfl ?_
  refine e_callVp (d1 := rr_Row_at) (As := [.int i]) (st := []) dd_AB_taken_5 km_AB_97 hr rfl (by decide) rfl (Nat.le_of_ble_eq_true rfl) (Nat.le_of_ble_eq_true rfl) rfl rfl (c_Row_at htk i) ?_
  exact e_iret dd_AB_taken_8 rfl (cEnd_of (q := (_, (nm, by_, fs, im, op, pl, tk))) rfl rfl h0 rG.rf)
set_option maxRecDepth 100000 in
set_option maxHeartbeats 4000000 in
theorem c_AB_place (h : cRep w S) : ab_E G mm_AB_place rr_AB_place 0 [(0, .ref 1)] [] w (cEnd w (mPlace S)) := by
  obtain ⟨nm, by_, fs, im, op, pl, tk⟩ := S
  have h0 := h
  obtain ⟨h1, hnm, hby, hpk, ⟨dr, hdr⟩, ⟨cu, li, har⟩, haw, ⟨hop, hop6, hopk⟩, ⟨md, hmd⟩, htk⟩ := h
  have h40 : w.1 40 = _ := har
  refine e_aload_n dd_AB_place_0 rfl ?_
  refine e_get dd_AB_place_1 kf_AB_31 h1 rfl ?_
  refine e_get dd_AB_place_4 kf_AB_112 h40 rfl ?_
  exact e_iret dd_AB_place_7 rfl (cEnd_of (q := (_, (nm, by_, fs, im, op, pl, tk))) rfl rfl h0 rG.rf)
theorem mCount_out {x : Int32} (h : x.toInt < 0 ∨ 5 < x.toInt) : mCount x S = (-1, S) := by
  have hne : ∀ k : Int32, (0 ≤ k.toInt ∧ k.toInt ≤ 5) → ¬ x = k := fun k hk e => by rw [e] at h; omega
  rw [mCount, if_neg (hne 0 (by decide)), if_neg (hne 1 (by decide)), if_neg (hne 2 (by decide)), if_neg (hne 3 (by decide)), if_neg (hne 4 (by decide)), if_neg (hne 5 (by decide))]
set_option maxRecDepth 100000 in
set_option maxHeartbeats 4000000 in
theorem c_AB_count (h : cRep w S) (x : Int32) : ab_E G mm_AB_count rr_AB_count 0 [(0, .ref 1), (1, .int x)] [] w (cEnd w (mCount x S)) := by
  obtain ⟨nm, by_, fs, im, op, pl, tk⟩ := S
  have h0 := h
  obtain ⟨h1, hnm, hby, hpk, ⟨dr, hdr⟩, ⟨cu, li, har⟩, haw, ⟨hop, hop6, hopk⟩, ⟨md, hmd⟩, htk⟩ := h
  have h40 : w.1 40 = _ := har
  have h6 := hpk.2.1
  have hr41 := haw.2.2.obj
  have hr2 := hnm.obj
  have hr4 := hby.obj
  have hr67 := htk.obj
  rcases sw6 x with rfl | rfl | rfl | rfl | rfl | rfl | hx
  · refine e_iload_n dd_AB_count_0 rfl ?_
    refine e_tableIn (tgt := 40) dd_AB_count_1 (by decide) (by decide) rfl (by decide) ?_
    refine e_aload_n dd_AB_count_40 rfl ?_
    refine e_get dd_AB_count_41 kf_AB_24 h1 rfl ?_
    refine e_get dd_AB_count_44 kf_AB_59 h6 rfl ?_
    exact e_iret dd_AB_count_47 rfl (cEnd_of (q := (_, (nm, by_, fs, im, op, pl, tk))) rfl rfl h0 rG.rf)
  · refine e_iload_n dd_AB_count_0 rfl ?_
    refine e_tableIn (tgt := 48) dd_AB_count_1 (by decide) (by decide) rfl (by decide) ?_
    refine e_aload_n dd_AB_count_48 rfl ?_
    refine e_get dd_AB_count_49 kf_AB_31 h1 rfl ?_
    refine e_get dd_AB_count_52 kf_AB_84 h40 rfl ?_
    refine e_get dd_AB_count_55 kf_AB_48 hr41 rfl ?_
    exact e_iret dd_AB_count_58 rfl (cEnd_of (q := (_, (nm, by_, fs, im, op, pl, tk))) rfl rfl h0 rG.rf)
  · refine e_iload_n dd_AB_count_0 rfl ?_
    refine e_tableIn (tgt := 59) dd_AB_count_1 (by decide) (by decide) rfl (by decide) ?_
    refine e_aload_n dd_AB_count_59 rfl ?_
    refine e_get dd_AB_count_60 kf_AB_31 h1 rfl ?_
    refine e_get dd_AB_count_63 kf_AB_144 h40 rfl ?_
    exact e_iret dd_AB_count_66 rfl (cEnd_of (q := (_, (nm, by_, fs, im, op, pl, tk))) rfl rfl h0 rG.rf)
  · refine e_iload_n dd_AB_count_0 rfl ?_
    refine e_tableIn (tgt := 67) dd_AB_count_1 (by decide) (by decide) rfl (by decide) ?_
    refine e_aload_n dd_AB_count_67 rfl ?_
    refine e_get dd_AB_count_68 kf_AB_14 h1 rfl ?_
    refine e_get dd_AB_count_71 kf_AB_48 hr2 rfl ?_
    exact e_iret dd_AB_count_74 rfl (cEnd_of (q := (_, (nm, by_, fs, im, op, pl, tk))) rfl rfl h0 rG.rf)
  · refine e_iload_n dd_AB_count_0 rfl ?_
    refine e_tableIn (tgt := 75) dd_AB_count_1 (by decide) (by decide) rfl (by decide) ?_
    refine e_aload_n dd_AB_count_75 rfl ?_
    refine e_get dd_AB_count_76 kf_AB_18 h1 rfl ?_
    refine e_get dd_AB_count_79 kf_AB_48 hr4 rfl ?_
    exact e_iret dd_AB_count_82 rfl (cEnd_of (q := (_, (nm, by_, fs, im, op, pl, tk))) rfl rfl h0 rG.rf)
  · refine e_iload_n dd_AB_count_0 rfl ?_
    refine e_tableIn (tgt := 83) dd_AB_count_1 (by decide) (by decide) rfl (by decide) ?_
    refine e_aload_n dd_AB_count_83 rfl ?_
    refine e_get dd_AB_count_84 kf_AB_38 h1 rfl ?_
    refine e_get dd_AB_count_87 kf_AB_48 hr67 rfl ?_
    exact e_iret dd_AB_count_90 rfl (cEnd_of (q := (_, (nm, by_, fs, im, op, pl, tk))) rfl rfl h0 rG.rf)
  · rw [mCount_out hx]
    refine e_iload_n dd_AB_count_0 rfl ?_
    refine e_tableOut (tgt := 91) dd_AB_count_1 hx (by decide) ?_
    refine e_iconst (v := -1) dd_AB_count_91 (by decide) ?_
    exact e_iret dd_AB_count_92 rfl (cEnd_of (q := (_, (nm, by_, fs, im, op, pl, tk))) rfl rfl h0 rG.rf)
set_option maxRecDepth 100000 in
set_option maxHeartbeats 4000000 in
theorem c_AB_file (h : cRep w S) (f x : Int32) : ab_E G mm_AB_file rr_AB_file 0 [(0, .ref 1), (1, .int f), (2, .int x)] [] w (cEnd w (mFile f x S)) := by
  obtain ⟨nm, by_, fs, im, op, pl, tk⟩ := S
  have h0 := h
  obtain ⟨h1, hnm, hby, hpk, ⟨dr, hdr⟩, ⟨cu, li, har⟩, haw, ⟨hop, hop6, hopk⟩, ⟨md, hmd⟩, htk⟩ := h
  have h40 : w.1 40 = _ := har
  obtain ⟨⟨g, h43, hg⟩, hE, him⟩ := id haw
  refine e_aload_n dd_AB_file_0 rfl ?_
  refine e_get dd_AB_file_1 kf_AB_31 h1 rfl ?_
  refine e_iload_n dd_AB_file_4 rfl ?_
  refine e_callVp (d1 := rr_Ar_has) (As := [.int f]) (st := []) dd_AB_file_5 km_AB_115 h40 rfl (by decide) rfl (Nat.le_of_ble_eq_true rfl) (Nat.le_of_ble_eq_true rfl) rfl rfl (c_Ar_has har (by omega) f) ?_
  refine e_if_eq_b (tgt := 27) dd_AB_file_8 (by decide) (fun c8 => ?_) (fun c8 => ?_)
  · refine e_iconst (v := -1) dd_AB_file_27 (by decide) ?_
    exact e_iret dd_AB_file_28 rfl (cEnd_of (q := (_, (nm, by_, fs, im, op, pl, tk))) (by simp only [mFile]; rw [if_neg (of_decide_eq_false c8)]) rfl h0 rG.rf)
  · have c9 := of_decide_eq_true c8
    obtain ⟨j, hj, rfl, ej⟩ := nI_self (Int32.not_lt.mpr c9.1)
    have hjl : j < op.length := (nI_ltI hj (by omega)).mp c9.2
    have hq : op[j]? = some op[j] := List.getElem?_eq_getElem hjl
    generalize op[j] = q at hq
    obtain ⟨hfq, hnq⟩ := hop j q hq
    have hfo : w.1 (44 + 3 * j) = _ := hfq
    refine e_aload_n dd_AB_file_11 rfl ?_
    refine e_get dd_AB_file_12 kf_AB_31 h1 rfl ?_
    refine e_get dd_AB_file_15 kf_AB_118 h40 rfl ?_
    refine e_iload_n dd_AB_file_18 rfl ?_
    refine e_aald (v := .ref (44 + 3 * j)) dd_AB_file_19 h43 rfl rfl (by omega) (by decide) (by rw [hg _ (by omega)]; rfl) ?_
    refine e_iload_n dd_AB_file_20 rfl ?_
    refine e_callVp (d1 := rr_OF_tell) (As := [.int x]) (st := []) dd_AB_file_21 km_AB_141 hfo rfl (by decide) rfl (Nat.le_of_ble_eq_true rfl) (Nat.le_of_ble_eq_true rfl) rfl rfl (c_OF_tell ⟨hfq, hnq⟩ x) ?_
    refine e_goto (tgt := 28) dd_AB_file_24 (by decide) ?_
    exact e_iret dd_AB_file_28 rfl (cEnd_of (q := (tl q.1 q.2.1 q.2.2.1 q.2.2.2.1 q.2.2.2.2.1 q.2.2.2.2.2 x, (nm, by_, fs, im, op, pl, tk))) (by simp only [mFile]; rw [if_pos c9, ej, hq]) rfl h0 rG.rf)
end AB
