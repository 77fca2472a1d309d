/-! The reference holds a state; its short calls. -/
def opI (g : Nat → Int32) (j : Nat) (q : FO) : Prop := g (14 * j + 0) = nI q.2.1 ∧ g (14 * j + 1) = nI q.1.length ∧ g (14 * j + 2) = nI q.2.2.1 ∧ g (14 * j + 3) = nI q.2.2.2.1 ∧ g (14 * j + 4) = nI q.2.2.2.2.1 ∧ g (14 * j + 5) = nI q.2.2.2.2.2 ∧ ∀ i, i < q.1.length → g (14 * j + (6 + i)) = nI (q.1.getD i 0)
def mP (w : ab_W) (op : List FO) (len : Nat) : Prop := op.length ≤ 6 ∧ (∀ q ∈ op, foOK len q) ∧ ∃ g, w.1 79 = some (.inl (0, 84, .inl g)) ∧ ∀ (j : Nat) (q : FO), op[j]? = some q → opI g j q
theorem mP.keep {w w2 : ab_W} {op : List FO} {len : Nat} (h : mP w op len) (hf : w2.1 79 = w.1 79) : mP w2 op len := by
  obtain ⟨h1, h2, g, h3, h4⟩ := h
  exact ⟨h1, h2, g, hf.trans h3, h4⟩
theorem mP.nil {w w2 : ab_W} {op : List FO} {len l2 : Nat} (h : mP w op len) (hf : w2.1 79 = w.1 79) : mP w2 [] l2 := by
  obtain ⟨h1, h2, g, h3, h4⟩ := h
  exact ⟨Nat.zero_le _, (fun q hq => by cases hq), g, hf.trans h3, fun j q hq => by simp at hq⟩
def mRep (w : ab_W) : CS → Prop
  | (nm, by_, fs, im, op, pl, tk) => (∃ md rq, mO w (nI nm.length) (nI by_.length) (nI fs.length) (nI im.length) md (nI op.length) pl (nI tk.length) rq) ∧ mA w 70 8 nm ∧ mA w 71 60 by_ ∧ mF w fs ∧ mA w 77 600 im ∧ (∃ ds, mA w 78 1200 ds) ∧ mP w op im.length ∧ mA w 80 60 tk ∧ ∃ xs, mA w 81 400 xs
def mEnd (w : ab_W) (p : Int32 × CS) : Option Value → ab_W → Prop := pI p.1 fun w2 => mRep w2 p.2 ∧ rG w w2 69 82
theorem mEnd_of {w w2 : ab_W} {p q : Int32 × CS} {y : Int32} (e : p = q) (hy : y = q.1) (hr : mRep w2 q.2) (hG : rG w w2 69 82) : mEnd w p (some (.int y)) w2 := by
  rw [e]; exact ⟨by rw [hy], hr, hG⟩
theorem mRep.far {w w2 : ab_W} {S : CS} (h : mRep w S) (hf : ∀ j, 69 ≤ j → w2.1 j = w.1 j) : mRep w2 S := by
  obtain ⟨nm, by_, fs, im, op, pl, tk⟩ := S
  obtain ⟨⟨md, rq, hO⟩, hnm, hby, hF, him, ⟨ds, hds⟩, hP, htk, ⟨xs, hxs⟩⟩ := h
  exact ⟨⟨md, rq, (hf 69 (by decide)).trans hO⟩, hnm.keep (hf _ (by decide)), hby.keep (hf _ (by decide)), hF.keep (fun j a _ => hf j (by omega)), him.keep (hf _ (by decide)), ⟨ds, hds.keep (hf _ (by decide))⟩, hP.keep (hf _ (by decide)), htk.keep (hf _ (by decide)), ⟨xs, hxs.keep (hf _ (by decide))⟩⟩
theorem cRep.far {w w2 : ab_W} {S : CS} (h : cRep w S) (hf : ∀ j, j < 69 → w2.1 j = w.1 j) : cRep w2 S := by
  obtain ⟨nm, by_, fs, im, op, pl, tk⟩ := S
  obtain ⟨h1, hnm, hby, hpk, ⟨dr, hdr⟩, ⟨cu, li, har⟩, haw, ⟨hop, hop6, hopk⟩, ⟨md, hmd⟩, htk⟩ := h
  exact ⟨(hf 1 (by decide)).trans h1, hnm.keep (hf _ (by decide)) (hf _ (by decide)), hby.keep (hf _ (by decide)) (hf _ (by decide)), hpk.keep (fun j _ _ => hf j (by omega)), ⟨dr, hdr.keep (hf _ (by decide)) (hf _ (by decide))⟩, ⟨cu, li, (hf 40 (by decide)).trans har⟩, haw.G (fun j _ _ => hf j (by omega)), ⟨op_G hop hop6 (fun j _ _ => hf j (by omega)), hop6, hopk⟩, ⟨md, hmd.keep (hf _ (by decide)) (hf _ (by decide))⟩, htk.keep (hf _ (by decide)) (hf _ (by decide))⟩
theorem in_sub1 {x : Int32} {n : Nat} (hn : n < 2 ^ 31) : (nI 0 ≤ x ∧ x ≤ nI n - nI 1) ↔ (0 ≤ x ∧ x < nI n) := by
  by_cases h0 : 0 ≤ x
  · obtain ⟨j, hj, rfl, -⟩ := nI_self (Int32.not_lt.mpr h0)
    by_cases hz : n = 0
    · subst hz
      constructor
      · intro h
        exact absurd (Int32.le_trans h.1 h.2) (by decide)
      · intro h
        exact absurd ((nI_ltI hj (by decide)).mp h.2) (by omega)
    · rw [show nI n - nI 1 = nI (n - 1) from pk_sub (by omega), nI_leI hj (by omega), nI_ltI hj hn]
      constructor
      · intro h; exact ⟨h.1, by omega⟩
      · intro h; exact ⟨h.1, by omega⟩
  · constructor
    · intro h; exact absurd h.1 h0
    · intro h; exact absurd h.1 h0
theorem dec_sub1 {x : Int32} {n : Nat} (hn : n < 2 ^ 31) : decide (nI 0 ≤ x ∧ x ≤ nI n - nI 1) = decide (0 ≤ x ∧ x < nI n) := decide_eq_decide.mpr (in_sub1 hn)
theorem mA.set {w w2 : ab_W} {a cap b i : Nat} {xs : List Nat} {f : Nat → Int32} (h : mA w a cap xs) (hb : b < 256) (hv : w2.1 a = some (.inl (0, cap, .inl (upd f i (nI b))))) (hf : ∀ j, j < xs.length → f j = nI (xs.getD j 0)) (hi : i < xs.length) : mA w2 a cap (xs.set i b) := by
  refine ⟨by rw [List.length_set]; exact h.1, fun x hx => ?_, _, hv, fun j hj => ?_⟩
  · rcases List.mem_or_eq_of_mem_set hx with h1 | h1
    · exact h.2.1 x h1
    · rw [h1]; exact hb
  · rw [List.length_set] at hj
    rw [List.getD_eq_getElem?_getD, List.getElem?_set]
    by_cases e : j = i
    · subst e
      rw [if_pos rfl, if_pos hj]
      exact if_pos rfl
    · rw [if_neg (Ne.symm e), ← List.getD_eq_getElem?_getD, ← hf j hj]
      exact if_neg e
theorem mA.take {w w2 : ab_W} {a cap : Nat} {xs : List Nat} (h : mA w a cap xs) (hf : w2.1 a = w.1 a) (n : Nat) : mA w2 a cap (xs.take n) := by
  obtain ⟨h1, h2, f, h3, h4⟩ := h
  refine ⟨by rw [List.length_take]; omega, fun x hx => h2 x (List.mem_of_mem_take hx), f, hf.trans h3, fun j hj => ?_⟩
  rw [List.length_take] at hj
  rw [h4 j (by omega), List.getD_eq_getElem?_getD, List.getD_eq_getElem?_getD, List.getElem?_take, if_pos (by omega)]
theorem rG_of {w w2 : ab_W} {a b : Nat} (hv : w2.2 = w.2) (hf : ∀ j, j ≠ a → j ≠ b → w2.1 j = w.1 j) (ha : 69 ≤ a ∧ a < 82) (hb : 69 ≤ b ∧ b < 82) : rG w w2 69 82 := ⟨hv, fun j hj => hf j (by omega) (by omega)⟩
section MD
variable {G : ab_G} {w : ab_W} {nl dl fl ln md op pl tk rq : Int32} {xs ds : List Nat} {i : Nat} {S : CS}
set_option maxRecDepth 100000 in
set_option maxHeartbeats 4000000 in
theorem c_Md_of {g : Nat → Int32} {j k : Nat} (h : mO w nl dl fl ln md op pl tk rq) (h79 : w.1 79 = some (.inl (0, 84, .inl g))) (hk : 14 * j + k < 84) : ab_E G mm_Md_of rr_Md_of 0 [(0, .ref 69), (1, .int (nI j)), (2, .int (nI k))] [] w (pP (g (14 * j + k)) w) := by
  have h69 : w.1 69 = _ := h
  refine e_aload_n dd_Md_of_0 rfl ?_
  refine e_get dd_Md_of_1 kf_Md_37 h69 rfl ?_
  refine e_bipush_n 14 dd_Md_of_4 (by decide) ?_
  refine e_iload_n dd_Md_of_6 rfl ?_
  refine e_imul_n dd_Md_of_7 ?_
  refine e_iload_n dd_Md_of_8 rfl ?_
  refine e_iadd_n dd_Md_of_9 ?_
  refine e_iald dd_Md_of_10 h79 rfl rfl (by omega) (by decide) ?_
  exact e_iret dd_Md_of_11 rfl (pP_of rfl)
set_option maxRecDepth 100000 in
set_option maxHeartbeats 4000000 in
theorem c_Md_ofn {g : Nat → Int32} {j k v : Nat} (h : mO w nl dl fl ln md op pl tk rq) (h79 : w.1 79 = some (.inl (0, 84, .inl g))) (hk : 14 * j + k < 84) (e : g (14 * j + k) = nI v) : ab_E G mm_Md_of rr_Md_of 0 [(0, .ref 69), (1, .int (nI j)), (2, .int (nI k))] [] w (pP (nI v) w) := by
  rw [← e]; exact c_Md_of h h79 hk
set_option maxRecDepth 100000 in
set_option maxHeartbeats 4000000 in
theorem c_Md_name (h : mRep w S) (x : Int32) : ab_E G mm_Md_name rr_Md_name 0 [(0, .ref 69), (1, .int x)] [] w (mEnd w (mName x S)) := by
  obtain ⟨nm, by_, fs, im, op, pl, tk⟩ := S
  have h0 := h
  obtain ⟨⟨md, rq, hO⟩, hnm, hby, hF, him, ⟨ds, hds⟩, hP, htk, ⟨xs, hxs⟩⟩ := h
  have h69 : w.1 69 = _ := hO
  have hnl := hnm.1
  have hbl := hby.1
  have hfl := hF.1
  have hil := him.1
  have hpl := hP.1
  have htl := htk.1
  obtain ⟨-, -, f70, h70, hf70⟩ := id hnm
  refine e_iload_n dd_Md_name_0 rfl ?_
  refine e_callSp (d1 := rr_Md_sign) (As := [.int x]) (st := []) dd_Md_name_1 km_Md_54 (by decide) rfl (Nat.le_of_ble_eq_true rfl) (Nat.le_of_ble_eq_true rfl) rfl rfl (c_Md_sign x) ?_
  refine e_if_ne_b (tgt := 9) dd_Md_name_4 (by decide) (fun c4 => ?_) (fun c4 => ?_)
  · obtain ⟨b, hb, rfl, hnb⟩ := nchI_b c4
    have ec : (nI b).toNatClampNeg = b := nI_clamp (by omega)
    refine e_aload_n dd_Md_name_9 rfl ?_
    refine e_get dd_Md_name_10 kf_Md_58 h69 rfl ?_
    refine e_bipush_n 8 dd_Md_name_13 (by decide) ?_
    refine e_icmp_ne_n (tgt := 21) dd_Md_name_15 (by decide) (by omega) (by omega) (fun c15 => ?_) (fun c15 => ?_)
    · refine e_aload_n dd_Md_name_21 rfl ?_
      refine e_get dd_Md_name_22 kf_Md_7 h69 rfl ?_
      refine e_aload_n dd_Md_name_25 rfl ?_
      refine e_get dd_Md_name_26 kf_Md_58 h69 rfl ?_
      refine e_iload_n dd_Md_name_29 rfl ?_
      refine e_iastx dd_Md_name_30 h70 rfl rfl (by omega) (by decide) (fun w1 h2n h2v h2f => ?_)
      refine e_aload_n dd_Md_name_31 rfl ?_
      refine e_dup dd_Md_name_32 rfl ?_
      refine e_get dd_Md_name_33 kf_Md_58 ((h2f _ (by decide)).trans h69) rfl ?_
      refine e_iconst_n 1 dd_Md_name_36 (by decide) ?_
      refine e_iadd_n dd_Md_name_37 ?_
      refine e_putx (fs1 := [.int (nI (nm.length + 1)), .ref 70, .int (nI by_.length), .ref 71, .int (nI fs.length), .ref 72, .ref 73, .ref 74, .ref 75, .ref 76, .int (nI im.length), .ref 77, .int md, .ref 78, .int (nI op.length), .ref 79, .int pl, .int (nI tk.length), .ref 80, .int rq, .ref 81]) dd_Md_name_38 kf_Md_58 ((h2f _ (by decide)).trans h69) (Nat.le_of_ble_eq_true rfl) rfl rfl rfl (fun w3 h4n h4v h4f => ?_)
      refine e_aload_n dd_Md_name_41 rfl ?_
      refine e_get dd_Md_name_42 kf_Md_58 h4v rfl ?_
      have hf : ∀ j, j ≠ 69 → j ≠ 70 → w3.1 j = w.1 j := fun j a b => (h4f j a).trans (h2f j b)
      have hq : mO w3 (nI (nm ++ [b]).length) (nI by_.length) (nI fs.length) (nI im.length) md (nI op.length) pl (nI tk.length) rq := by
        rw [List.length_append]; exact h4v
      exact e_iret dd_Md_name_45 rfl (mEnd_of (q := (nI (nm.length + 1), (nm ++ [b], by_, fs, im, op, pl, tk))) (by simp only [mName, if_pos c4, if_pos (show nm.length < 8 by omega), ec]) rfl ⟨⟨md, rq, hq⟩, hnm.snoc hb (by omega) ((h4f 70 (by decide)).trans h2v) hf70, hby.keep (hf 71 (by decide) (by decide)), hF.keep (fun j a b => hf j (by omega) (by omega)), him.keep (hf 77 (by decide) (by decide)), ⟨ds, hds.keep (hf 78 (by decide) (by decide))⟩, hP.keep (hf 79 (by decide) (by decide)), htk.keep (hf 80 (by decide) (by decide)), ⟨xs, hxs.keep (hf 81 (by decide) (by decide))⟩⟩ (rG_of (h4n.trans h2n) hf (by decide) (by decide)))
    · refine e_bipush (v := -2) dd_Md_name_18 (by decide) ?_
      exact e_iret dd_Md_name_20 rfl (mEnd_of (q := (_, (nm, by_, fs, im, op, pl, tk))) (by simp only [mName, if_pos c4, if_neg (show ¬ nm.length < 8 by omega)]) rfl h0 rG.rf)
  · refine e_iconst (v := -1) dd_Md_name_7 (by decide) ?_
    exact e_iret dd_Md_name_8 rfl (mEnd_of (q := (_, (nm, by_, fs, im, op, pl, tk))) (by simp only [mName, if_neg (show ¬ nchI x = true by rw [c4]; decide)]) rfl h0 rG.rf)
theorem mA.snocAt {w w2 : ab_W} {a cap b n : Nat} {xs : List Nat} {f : Nat → Int32} (h : mA w a cap xs) (hb : b < 256) (hl : xs.length < cap) (hn : n = xs.length) (hv : w2.1 a = some (.inl (0, cap, .inl (upd f n (nI b))))) (hf : ∀ j, j < xs.length → f j = nI (xs.getD j 0)) : mA w2 a cap (xs ++ [b]) := by
  subst hn; exact h.snoc hb hl hv hf
set_option maxRecDepth 100000 in
set_option maxHeartbeats 4000000 in
theorem l_Md_data_ {by_ : List Nat} {b n : Nat} {P : Option Value → ab_W → Prop} (hb : b < 256) (hn : by_.length + n ≤ 60) (K : ∀ w2, rS w w2 71 71 → mA w2 71 60 (by_ ++ List.replicate n b) → ab_E G mm_Md_data rr_Md_data 62 [(0, .ref 69), (1, .int (nI b)), (2, .int (nI n)), (3, .int (nI n))] [] w2 P) (h : mO w nl (nI by_.length) fl ln md op pl tk rq) : ∀ (k i : Nat) (w1 : ab_W), i + k = n → rS w w1 71 71 → mA w1 71 60 (by_ ++ List.replicate i b) → ab_E G mm_Md_data rr_Md_data 39 [(0, .ref 69), (1, .int (nI b)), (2, .int (nI n)), (3, .int (nI i))] [] w1 P := by
  intro k
  induction k with
  | zero =>
    intro i w1 hi hS hA
    have e0 : i = n := by omega
    subst e0
    refine e_iload_n dd_Md_data_39 rfl ?_
    refine e_iload_n dd_Md_data_40 rfl ?_
    refine e_icmp_ge_n (tgt := 62) dd_Md_data_41 (by decide) (by omega) (by omega) (fun _ => ?_) (fun h9 => absurd h9 (by omega))
    exact K w1 hS hA
  | succ k ih =>
    intro i w1 hi hS hA
    have h69 : w1.1 69 = _ := (hS.2 69 (by decide) (by decide)).trans h
    obtain ⟨hl, -, f71, h71, hf71⟩ := id hA
    have hla : (by_ ++ List.replicate i b).length = by_.length + i := by simp
    refine e_iload_n dd_Md_data_39 rfl ?_
    refine e_iload_n dd_Md_data_40 rfl ?_
    refine e_icmp_ge_n (tgt := 62) dd_Md_data_41 (by decide) (by omega) (by omega) (fun h9 => absurd h9 (by omega)) (fun _ => ?_)
    refine e_aload_n dd_Md_data_44 rfl ?_
    refine e_get dd_Md_data_45 kf_Md_13 h69 rfl ?_
    refine e_aload_n dd_Md_data_48 rfl ?_
    refine e_get dd_Md_data_49 kf_Md_61 h69 rfl ?_
    refine e_iload_n dd_Md_data_52 rfl ?_
    refine e_iadd_n dd_Md_data_53 ?_
    refine e_iload_n dd_Md_data_54 rfl ?_
    refine e_iastx dd_Md_data_55 h71 rfl rfl (by omega) (by decide) (fun w1 h2n h2v h2f => ?_)
    refine e_iinc_n (a := i) (k := 1) (lv1 := [(0, .ref 69), (1, .int (nI b)), (2, .int (nI n)), (3, .int (nI (i + 1)))]) dd_Md_data_56 rfl (by decide) (by decide) rfl ?_
    refine e_goto (tgt := 39) dd_Md_data_59 (by decide) ?_
    exact ih (i + 1) w1 (by omega) ⟨h2n.trans hS.1, fun j a b => (h2f j a).trans (hS.2 j a b)⟩ (by
      have q := hA.snocAt hb (by omega) hla.symm h2v hf71
      rwa [List.append_assoc, ← List.replicate_succ'] at q)
set_option maxRecDepth 100000 in
set_option maxHeartbeats 4000000 in
theorem c_Md_data (h : mRep w S) (b n : Int32) : ab_E G mm_Md_data rr_Md_data 0 [(0, .ref 69), (1, .int b), (2, .int n)] [] w (mEnd w (mData b n S)) := by
  obtain ⟨nm, by_, fs, im, op, pl, tk⟩ := S
  have h0 := h
  obtain ⟨⟨md, rq, hO⟩, hnm, hby, hF, him, ⟨ds, hds⟩, hP, htk, ⟨xs, hxs⟩⟩ := h
  have h69 : w.1 69 = _ := hO
  have hnl := hnm.1
  have hbl := hby.1
  have hfl := hF.1
  have hil := him.1
  have hpl := hP.1
  have htl := htk.1
  refine e_iload_n dd_Md_data_0 rfl ?_
  refine e_iconst_n 0 dd_Md_data_1 (by decide) ?_
  refine e_sipush_n 255 dd_Md_data_2 (by decide) ?_
  refine e_callSp (d1 := rr_Md_in) (As := [.int b, .int (nI 0), .int (nI 255)]) (st := []) dd_Md_data_5 km_Md_50 (by decide) rfl (Nat.le_of_ble_eq_true rfl) (Nat.le_of_ble_eq_true rfl) rfl rfl (c_Md_in b (nI 0) (nI 255)) ?_
  refine e_if_eq_b (tgt := 21) dd_Md_data_8 (by decide) (fun c8 => ?_) (fun c8 => ?_)
  · have c8 := of_decide_eq_false c8
    refine e_iconst (v := -1) dd_Md_data_21 (by decide) ?_
    exact e_iret dd_Md_data_22 rfl (mEnd_of (q := (_, (nm, by_, fs, im, op, pl, tk))) (by simp only [mData]; rw [if_neg (fun h9 => c8 (of_decide_eq_true h9.1))]) rfl h0 rG.rf)
  · have c8 := of_decide_eq_true c8
    refine e_iload_n dd_Md_data_11 rfl ?_
    refine e_iconst_n 1 dd_Md_data_12 (by decide) ?_
    refine e_bipush_n 60 dd_Md_data_13 (by decide) ?_
    refine e_callSp (d1 := rr_Md_in) (As := [.int n, .int (nI 1), .int (nI 60)]) (st := []) dd_Md_data_15 km_Md_50 (by decide) rfl (Nat.le_of_ble_eq_true rfl) (Nat.le_of_ble_eq_true rfl) rfl rfl (c_Md_in n (nI 1) (nI 60)) ?_
    refine e_if_ne_b (tgt := 23) dd_Md_data_18 (by decide) (fun c18 => ?_) (fun c18 => ?_)
    · have c18 := of_decide_eq_true c18
      have hib : isBI b = true := decide_eq_true c8
      obtain ⟨b, hb, rfl⟩ := isBI_n hib
      obtain ⟨n, hn, rfl⟩ := nI_of2 (n := 60) (M := nI 60) (by decide) (fun h9 => absurd (Int32.lt_of_lt_of_le h9 (Int32.le_trans (by decide) c18.1)) (by simp)) c18.2
      have eb : (nI b).toNatClampNeg = b := nI_clamp (by omega)
      have en : (nI n).toNatClampNeg = n := nI_clamp (by omega)
      have hin : isBI (nI b) = true ∧ nI 1 ≤ nI n ∧ nI n ≤ nI 60 := ⟨hib, c18⟩
      refine e_aload_n dd_Md_data_23 rfl ?_
      refine e_get dd_Md_data_24 kf_Md_61 h69 rfl ?_
      refine e_iload_n dd_Md_data_27 rfl ?_
      refine e_iadd_n dd_Md_data_28 ?_
      refine e_bipush_n 60 dd_Md_data_29 (by decide) ?_
      refine e_icmp_le_n (tgt := 37) dd_Md_data_31 (by decide) (by omega) (by omega) (fun c31 => ?_) (fun c31 => ?_)
      · refine e_iconst_n 0 dd_Md_data_37 (by decide) ?_
        refine e_istore_n (lv1 := [(0, .ref 69), (1, .int (nI b)), (2, .int (nI n)), (3, .int (nI 0))]) dd_Md_data_38 (by decide) rfl ?_
        refine l_Md_data_ hb c31 (fun w2 hS hA2 => ?_) hO n 0 w (by omega) rS.rf (by simpa using hby)
        have h69 := (hS.2 69 (by decide) (by decide)).trans h69
        refine e_aload_n dd_Md_data_62 rfl ?_
        refine e_dup dd_Md_data_63 rfl ?_
        refine e_get dd_Md_data_64 kf_Md_61 h69 rfl ?_
        refine e_iload_n dd_Md_data_67 rfl ?_
        refine e_iadd_n dd_Md_data_68 ?_
        refine e_putx (fs1 := [.int (nI nm.length), .ref 70, .int (nI (by_.length + n)), .ref 71, .int (nI fs.length), .ref 72, .ref 73, .ref 74, .ref 75, .ref 76, .int (nI im.length), .ref 77, .int md, .ref 78, .int (nI op.length), .ref 79, .int pl, .int (nI tk.length), .ref 80, .int rq, .ref 81]) dd_Md_data_69 kf_Md_61 h69 (Nat.le_of_ble_eq_true rfl) rfl rfl rfl (fun w1 h2n h2v h2f => ?_)
        refine e_aload_n dd_Md_data_72 rfl ?_
        refine e_get dd_Md_data_73 kf_Md_61 h2v rfl ?_
        have hf : ∀ j, j ≠ 69 → j ≠ 71 → w1.1 j = w.1 j := fun j a b => (h2f j a).trans (hS.2 j b b)
        have hq : mO w1 (nI nm.length) (nI (by_ ++ List.replicate n b).length) (nI fs.length) (nI im.length) md (nI op.length) pl (nI tk.length) rq := by
          rw [List.length_append, List.length_replicate]; exact h2v
        exact e_iret dd_Md_data_76 rfl (mEnd_of (q := (nI (by_.length + n), (nm, by_ ++ List.replicate n b, fs, im, op, pl, tk))) (by simp only [mData]; rw [if_pos hin, en, eb, if_pos c31]) rfl ⟨⟨md, rq, hq⟩, hnm.keep (hf 70 (by decide) (by decide)), hA2.keep (h2f 71 (by decide)), hF.keep (fun j a b => hf j (by omega) (by omega)), him.keep (hf 77 (by decide) (by decide)), ⟨ds, hds.keep (hf 78 (by decide) (by decide))⟩, hP.keep (hf 79 (by decide) (by decide)), htk.keep (hf 80 (by decide) (by decide)), ⟨xs, hxs.keep (hf 81 (by decide) (by decide))⟩⟩ (rG_of (h2n.trans hS.1) hf (by decide) (by decide)))
      · refine e_bipush (v := -2) dd_Md_data_34 (by decide) ?_
        exact e_iret dd_Md_data_36 rfl (mEnd_of (q := (_, (nm, by_, fs, im, op, pl, tk))) (by simp only [mData]; rw [if_pos hin, en, if_neg (by omega)]) rfl h0 rG.rf)
    · have c18 := of_decide_eq_false c18
      refine e_iconst (v := -1) dd_Md_data_21 (by decide) ?_
      exact e_iret dd_Md_data_22 rfl (mEnd_of (q := (_, (nm, by_, fs, im, op, pl, tk))) (by simp only [mData]; rw [if_neg (fun h9 => c18 h9.2)]) rfl h0 rG.rf)
set_option maxRecDepth 100000 in
set_option maxHeartbeats 4000000 in
theorem c_Md_put (h : mRep w S) (i b : Int32) : ab_E G mm_Md_put rr_Md_put 0 [(0, .ref 69), (1, .int i), (2, .int b)] [] w (mEnd w (mPut i b S)) := by
  obtain ⟨nm, by_, fs, im, op, pl, tk⟩ := S
  have h0 := h
  obtain ⟨⟨md, rq, hO⟩, hnm, hby, hF, him, ⟨ds, hds⟩, hP, htk, ⟨xs, hxs⟩⟩ := h
  have h69 : w.1 69 = _ := hO
  have hnl := hnm.1
  have hbl := hby.1
  have hfl := hF.1
  have hil := him.1
  have hpl := hP.1
  have htl := htk.1
  obtain ⟨-, -, f77, h77, hf77⟩ := id him
  refine e_iload_n dd_Md_put_0 rfl ?_
  refine e_iconst_n 0 dd_Md_put_1 (by decide) ?_
  refine e_aload_n dd_Md_put_2 rfl ?_
  refine e_get dd_Md_put_3 kf_Md_124 h69 rfl ?_
  refine e_callSp (d1 := rr_Md_in) (As := [.int i, .int (nI 0), .int (nI im.length)]) (st := []) dd_Md_put_6 km_Md_50 (by decide) rfl (Nat.le_of_ble_eq_true rfl) (Nat.le_of_ble_eq_true rfl) rfl rfl (c_Md_in i (nI 0) (nI im.length)) ?_
  refine e_if_eq_b (tgt := 23) dd_Md_put_9 (by decide) (fun c9 => ?_) (fun c9 => ?_)
  · have c9 := of_decide_eq_false c9
    refine e_iconst (v := -1) dd_Md_put_23 (by decide) ?_
    exact e_iret dd_Md_put_24 rfl (mEnd_of (q := (_, (nm, by_, fs, im, op, pl, tk))) (by simp only [mPut]; rw [if_neg (fun h9 => c9 h9.1)]) rfl h0 rG.rf)
  · have c9 := of_decide_eq_true c9
    refine e_iload_n dd_Md_put_12 rfl ?_
    refine e_iconst_n 0 dd_Md_put_13 (by decide) ?_
    refine e_sipush_n 255 dd_Md_put_14 (by decide) ?_
    refine e_callSp (d1 := rr_Md_in) (As := [.int b, .int (nI 0), .int (nI 255)]) (st := []) dd_Md_put_17 km_Md_50 (by decide) rfl (Nat.le_of_ble_eq_true rfl) (Nat.le_of_ble_eq_true rfl) rfl rfl (c_Md_in b (nI 0) (nI 255)) ?_
    refine e_if_ne_b (tgt := 25) dd_Md_put_20 (by decide) (fun c20 => ?_) (fun c20 => ?_)
    · have c20 := of_decide_eq_true c20
      have hib : isBI b = true := decide_eq_true c20
      have hin : (0 ≤ i ∧ i ≤ nI im.length) ∧ isBI b = true := ⟨c9, hib⟩
      obtain ⟨b, hb, rfl⟩ := isBI_n hib
      obtain ⟨i, hi, rfl, ei⟩ := nI_self (Int32.not_lt.mpr c9.1)
      have hil2 : i ≤ im.length := (nI_leI hi (by omega)).mp c9.2
      have eb : (nI b).toNatClampNeg = b := nI_clamp (by omega)
      refine e_iload_n dd_Md_put_25 rfl ?_
      refine e_sipush_n 600 dd_Md_put_26 (by decide) ?_
      refine e_icmp_ne_n (tgt := 35) dd_Md_put_29 (by decide) (by omega) (by omega) (fun c29 => ?_) (fun c29 => ?_)
      · refine e_aload_n dd_Md_put_35 rfl ?_
        refine e_get dd_Md_put_36 kf_Md_31 h69 rfl ?_
        refine e_iload_n dd_Md_put_39 rfl ?_
        refine e_iload_n dd_Md_put_40 rfl ?_
        refine e_iastx dd_Md_put_41 h77 rfl rfl (by omega) (by decide) (fun w1 h2n h2v h2f => ?_)
        refine e_iload_n dd_Md_put_42 rfl ?_
        refine e_aload_n dd_Md_put_43 rfl ?_
        refine e_get dd_Md_put_44 kf_Md_124 ((h2f _ (by decide)).trans h69) rfl ?_
        refine e_icmp_ne_n (tgt := 60) dd_Md_put_47 (by decide) (by omega) (by omega) (fun c47 => ?_) (fun c47 => ?_)
        · refine e_aload_n dd_Md_put_60 rfl ?_
          refine e_iconst_n 0 dd_Md_put_61 (by decide) ?_
          refine e_putx (fs1 := [.int (nI nm.length), .ref 70, .int (nI by_.length), .ref 71, .int (nI fs.length), .ref 72, .ref 73, .ref 74, .ref 75, .ref 76, .int (nI im.length), .ref 77, .int md, .ref 78, .int (nI 0), .ref 79, .int pl, .int (nI tk.length), .ref 80, .int rq, .ref 81]) dd_Md_put_62 kf_Md_127 ((h2f _ (by decide)).trans h69) (Nat.le_of_ble_eq_true rfl) rfl rfl rfl (fun w3 h4n h4v h4f => ?_)
          refine e_aload_n dd_Md_put_65 rfl ?_
          refine e_get dd_Md_put_66 kf_Md_124 h4v rfl ?_
          have hf : ∀ j, j ≠ 69 → j ≠ 77 → w3.1 j = w.1 j := fun j a b => (h4f j a).trans (h2f j b)
          exact e_iret dd_Md_put_69 rfl (mEnd_of (q := (nI im.length, (nm, by_, fs, im.set i b, [], pl, tk))) (by simp only [mPut]; rw [if_pos hin, ei, eb, if_pos (by omega)]) rfl ⟨⟨md, rq, by rw [List.length_set]; exact h4v⟩, hnm.keep (hf 70 (by decide) (by decide)), hby.keep (hf 71 (by decide) (by decide)), hF.keep (fun j a b => hf j (by omega) (by omega)), him.set hb ((h4f 77 (by decide)).trans h2v) hf77 (by omega), ⟨ds, hds.keep (hf 78 (by decide) (by decide))⟩, hP.nil (hf 79 (by decide) (by decide)), htk.keep (hf 80 (by decide) (by decide)), ⟨xs, hxs.keep (hf 81 (by decide) (by decide))⟩⟩ (rG_of (h4n.trans h2n) hf (by decide) (by decide)))
        · refine e_aload_n dd_Md_put_50 rfl ?_
          refine e_dup dd_Md_put_51 rfl ?_
          refine e_get dd_Md_put_52 kf_Md_124 ((h2f _ (by decide)).trans h69) rfl ?_
          refine e_iconst_n 1 dd_Md_put_55 (by decide) ?_
          refine e_iadd_n dd_Md_put_56 ?_
          refine e_putx (fs1 := [.int (nI nm.length), .ref 70, .int (nI by_.length), .ref 71, .int (nI fs.length), .ref 72, .ref 73, .ref 74, .ref 75, .ref 76, .int (nI (im.length + 1)), .ref 77, .int md, .ref 78, .int (nI op.length), .ref 79, .int pl, .int (nI tk.length), .ref 80, .int rq, .ref 81]) dd_Md_put_57 kf_Md_124 ((h2f _ (by decide)).trans h69) (Nat.le_of_ble_eq_true rfl) rfl rfl rfl (fun w5 h6n h6v h6f => ?_)
          refine e_aload_n dd_Md_put_60 rfl ?_
          refine e_iconst_n 0 dd_Md_put_61 (by decide) ?_
          refine e_putx (fs1 := [.int (nI nm.length), .ref 70, .int (nI by_.length), .ref 71, .int (nI fs.length), .ref 72, .ref 73, .ref 74, .ref 75, .ref 76, .int (nI (im.length + 1)), .ref 77, .int md, .ref 78, .int (nI 0), .ref 79, .int pl, .int (nI tk.length), .ref 80, .int rq, .ref 81]) dd_Md_put_62 kf_Md_127 h6v (Nat.le_of_ble_eq_true rfl) rfl rfl rfl (fun w7 h8n h8v h8f => ?_)
          refine e_aload_n dd_Md_put_65 rfl ?_
          refine e_get dd_Md_put_66 kf_Md_124 h8v rfl ?_
          have hf : ∀ j, j ≠ 69 → j ≠ 77 → w7.1 j = w.1 j := fun j a b => (h8f j a).trans ((h6f j a).trans (h2f j b))
          exact e_iret dd_Md_put_69 rfl (mEnd_of (q := (nI (im.length + 1), (nm, by_, fs, im ++ [b], [], pl, tk))) (by simp only [mPut]; rw [if_pos hin, ei, eb, if_neg (by omega), if_pos (by omega)]) rfl ⟨⟨md, rq, by rw [List.length_append]; exact h8v⟩, hnm.keep (hf 70 (by decide) (by decide)), hby.keep (hf 71 (by decide) (by decide)), hF.keep (fun j a b => hf j (by omega) (by omega)), him.snocAt hb (by omega) c47 ((h8f 77 (by decide)).trans ((h6f 77 (by decide)).trans h2v)) hf77, ⟨ds, hds.keep (hf 78 (by decide) (by decide))⟩, hP.nil (hf 79 (by decide) (by decide)), htk.keep (hf 80 (by decide) (by decide)), ⟨xs, hxs.keep (hf 81 (by decide) (by decide))⟩⟩ (rG_of (h8n.trans (h6n.trans h2n)) hf (by decide) (by decide)))
      · refine e_bipush (v := -2) dd_Md_put_32 (by decide) ?_
        exact e_iret dd_Md_put_34 rfl (mEnd_of (q := (_, (nm, by_, fs, im, op, pl, tk))) (by simp only [mPut]; rw [if_pos hin, ei, if_neg (by omega), if_neg (by omega)]) rfl h0 rG.rf)
    · have c20 := of_decide_eq_false c20
      refine e_iconst (v := -1) dd_Md_put_23 (by decide) ?_
      exact e_iret dd_Md_put_24 rfl (mEnd_of (q := (_, (nm, by_, fs, im, op, pl, tk))) (by simp only [mPut]; rw [if_neg (fun h9 => c20 (of_decide_eq_true h9.2))]) rfl h0 rG.rf)
set_option maxRecDepth 100000 in
set_option maxHeartbeats 4000000 in
theorem c_Md_cut (h : mRep w S) (n : Int32) : ab_E G mm_Md_cut rr_Md_cut 0 [(0, .ref 69), (1, .int n)] [] w (mEnd w (mCut n S)) := by
  obtain ⟨nm, by_, fs, im, op, pl, tk⟩ := S
  have h0 := h
  obtain ⟨⟨md, rq, hO⟩, hnm, hby, hF, him, ⟨ds, hds⟩, hP, htk, ⟨xs, hxs⟩⟩ := h
  have h69 : w.1 69 = _ := hO
  have hnl := hnm.1
  have hbl := hby.1
  have hfl := hF.1
  have hil := him.1
  have hpl := hP.1
  have htl := htk.1
  refine e_iload_n dd_Md_cut_0 rfl ?_
  refine e_iconst_n 0 dd_Md_cut_1 (by decide) ?_
  refine e_aload_n dd_Md_cut_2 rfl ?_
  refine e_get dd_Md_cut_3 kf_Md_124 h69 rfl ?_
  refine e_callSp (d1 := rr_Md_in) (As := [.int n, .int (nI 0), .int (nI im.length)]) (st := []) dd_Md_cut_6 km_Md_50 (by decide) rfl (Nat.le_of_ble_eq_true rfl) (Nat.le_of_ble_eq_true rfl) rfl rfl (c_Md_in n (nI 0) (nI im.length)) ?_
  refine e_if_ne_b (tgt := 14) dd_Md_cut_9 (by decide) (fun c9 => ?_) (fun c9 => ?_)
  · have c9 := of_decide_eq_true c9
    have hin : 0 ≤ n ∧ n ≤ nI im.length := c9
    obtain ⟨n, hn, rfl, en⟩ := nI_self (Int32.not_lt.mpr c9.1)
    have hn2 : n ≤ im.length := (nI_leI hn (by omega)).mp c9.2
    refine e_aload_n dd_Md_cut_14 rfl ?_
    refine e_iload_n dd_Md_cut_15 rfl ?_
    refine e_putx (fs1 := [.int (nI nm.length), .ref 70, .int (nI by_.length), .ref 71, .int (nI fs.length), .ref 72, .ref 73, .ref 74, .ref 75, .ref 76, .int (nI n), .ref 77, .int md, .ref 78, .int (nI op.length), .ref 79, .int pl, .int (nI tk.length), .ref 80, .int rq, .ref 81]) dd_Md_cut_16 kf_Md_124 h69 (Nat.le_of_ble_eq_true rfl) rfl rfl rfl (fun w1 h2n h2v h2f => ?_)
    refine e_aload_n dd_Md_cut_19 rfl ?_
    refine e_iconst_n 0 dd_Md_cut_20 (by decide) ?_
    refine e_putx (fs1 := [.int (nI nm.length), .ref 70, .int (nI by_.length), .ref 71, .int (nI fs.length), .ref 72, .ref 73, .ref 74, .ref 75, .ref 76, .int (nI n), .ref 77, .int md, .ref 78, .int (nI 0), .ref 79, .int pl, .int (nI tk.length), .ref 80, .int rq, .ref 81]) dd_Md_cut_21 kf_Md_127 h2v (Nat.le_of_ble_eq_true rfl) rfl rfl rfl (fun w3 h4n h4v h4f => ?_)
    refine e_iload_n dd_Md_cut_24 rfl ?_
    have hf : ∀ j, j ≠ 69 → j ≠ 69 → w3.1 j = w.1 j := fun j a b => (h4f j a).trans (h2f j a)
    have hlt : (im.take n).length = n := by rw [List.length_take]; omega
    exact e_iret dd_Md_cut_25 rfl (mEnd_of (q := (nI n, (nm, by_, fs, im.take n, [], pl, tk))) (by simp only [mCut]; rw [if_pos hin, en]) rfl ⟨⟨md, rq, by rw [hlt]; exact h4v⟩, hnm.keep (hf 70 (by decide) (by decide)), hby.keep (hf 71 (by decide) (by decide)), hF.keep (fun j a b => hf j (by omega) (by omega)), him.take (hf 77 (by decide) (by decide)) n, ⟨ds, hds.keep (hf 78 (by decide) (by decide))⟩, hP.nil (hf 79 (by decide) (by decide)), htk.keep (hf 80 (by decide) (by decide)), ⟨xs, hxs.keep (hf 81 (by decide) (by decide))⟩⟩ (rG_of (h4n.trans h2n) hf (by decide) (by decide)))
  · have c9 := of_decide_eq_false c9
    refine e_iconst (v := -1) dd_Md_cut_12 (by decide) ?_
    exact e_iret dd_Md_cut_13 rfl (mEnd_of (q := (_, (nm, by_, fs, im, op, pl, tk))) (by simp only [mCut]; rw [if_neg (show ¬ (0 ≤ n ∧ n ≤ nI im.length) from c9)]) rfl h0 rG.rf)
set_option maxRecDepth 100000 in
set_option maxHeartbeats 4000000 in
theorem c_Md_image (h : mRep w S) (i : Int32) : ab_E G mm_Md_image rr_Md_image 0 [(0, .ref 69), (1, .int i)] [] w (mEnd w (mImage i S)) := by
  obtain ⟨nm, by_, fs, im, op, pl, tk⟩ := S
  have h0 := h
  obtain ⟨⟨md, rq, hO⟩, hnm, hby, hF, him, ⟨ds, hds⟩, hP, htk, ⟨xs, hxs⟩⟩ := h
  have h69 : w.1 69 = _ := hO
  have hnl := hnm.1
  have hbl := hby.1
  have hfl := hF.1
  have hil := him.1
  have hpl := hP.1
  have htl := htk.1
  obtain ⟨-, -, g, hg, hfg⟩ := id him
  refine e_iload_n dd_Md_image_0 rfl ?_
  refine e_iconst_n 0 dd_Md_image_1 (by decide) ?_
  refine e_aload_n dd_Md_image_2 rfl ?_
  refine e_get dd_Md_image_3 kf_Md_124 h69 rfl ?_
  refine e_iconst_n 1 dd_Md_image_6 (by decide) ?_
  refine e_isub dd_Md_image_7 ?_
  refine e_callSp (d1 := rr_Md_in) (As := [.int i, .int (nI 0), .int ((nI im.length) - (nI 1))]) (st := []) dd_Md_image_8 km_Md_50 (by decide) rfl (Nat.le_of_ble_eq_true rfl) (Nat.le_of_ble_eq_true rfl) rfl rfl (c_Md_in i (nI 0) (nI im.length - nI 1)) ?_
  refine e_top (y := bI (decide (0 ≤ i ∧ i < nI im.length))) (congrArg bI (dec_sub1 (by omega))) ?_
  refine e_if_eq_b (tgt := 23) dd_Md_image_11 (by decide) (fun c11 => ?_) (fun c11 => ?_)
  · have c11 := of_decide_eq_false c11
    have er : rbI im i = -1 := by
      by_cases hi : i < 0
      · rw [rbI, if_pos hi]
      · obtain ⟨j, hj, rfl, -⟩ := nI_self hi
        rw [rbI_n hj, rb_out (Nat.le_of_not_lt (fun h9 => c11 ⟨Int32.not_lt.mp hi, (nI_ltI hj (by omega)).mpr h9⟩))]
    refine e_iconst (v := -1) dd_Md_image_23 (by decide) ?_
    exact e_iret dd_Md_image_24 rfl (mEnd_of (q := (-1, (nm, by_, fs, im, op, pl, tk))) (by rw [mImage]; exact congrArg (fun z => (z, _)) er) rfl h0 rG.rf)
  · have c11 := of_decide_eq_true c11
    obtain ⟨j, hj, rfl, -⟩ := nI_self (Int32.not_lt.mpr c11.1)
    have hjl : j < im.length := (nI_ltI hj (by omega)).mp c11.2
    have er : rbI im (nI j) = nI (im.getD j 0) := by rw [rbI_n hj, rb_in hjl]
    refine e_aload_n dd_Md_image_14 rfl ?_
    refine e_get dd_Md_image_15 kf_Md_31 h69 rfl ?_
    refine e_iload_n dd_Md_image_18 rfl ?_
    refine e_iald dd_Md_image_19 hg rfl rfl (by omega) (by decide) ?_
    refine e_top (y := nI (im.getD j 0)) (hfg j hjl) ?_
    refine e_goto (tgt := 24) dd_Md_image_20 (by decide) ?_
    exact e_iret dd_Md_image_24 rfl (mEnd_of (q := (nI (im.getD j 0), (nm, by_, fs, im, op, pl, tk))) (by rw [mImage]; exact congrArg (fun z => (z, _)) er) rfl h0 rG.rf)
set_option maxRecDepth 100000 in
set_option maxHeartbeats 4000000 in
theorem c_Md_taken (h : mRep w S) (i : Int32) : ab_E G mm_Md_taken rr_Md_taken 0 [(0, .ref 69), (1, .int i)] [] w (mEnd w (mTaken i S)) := by
  obtain ⟨nm, by_, fs, im, op, pl, tk⟩ := S
  have h0 := h
  obtain ⟨⟨md, rq, hO⟩, hnm, hby, hF, him, ⟨ds, hds⟩, hP, htk, ⟨xs, hxs⟩⟩ := h
  have h69 : w.1 69 = _ := hO
  have hnl := hnm.1
  have hbl := hby.1
  have hfl := hF.1
  have hil := him.1
  have hpl := hP.1
  have htl := htk.1
  obtain ⟨-, -, g, hg, hfg⟩ := id htk
  refine e_iload_n dd_Md_taken_0 rfl ?_
  refine e_iconst_n 0 dd_Md_taken_1 (by decide) ?_
  refine e_aload_n dd_Md_taken_2 rfl ?_
  refine e_get dd_Md_taken_3 kf_Md_175 h69 rfl ?_
  refine e_iconst_n 1 dd_Md_taken_6 (by decide) ?_
  refine e_isub dd_Md_taken_7 ?_
  refine e_callSp (d1 := rr_Md_in) (As := [.int i, .int (nI 0), .int ((nI tk.length) - (nI 1))]) (st := []) dd_Md_taken_8 km_Md_50 (by decide) rfl (Nat.le_of_ble_eq_true rfl) (Nat.le_of_ble_eq_true rfl) rfl rfl (c_Md_in i (nI 0) (nI tk.length - nI 1)) ?_
  refine e_top (y := bI (decide (0 ≤ i ∧ i < nI tk.length))) (congrArg bI (dec_sub1 (by omega))) ?_
  refine e_if_eq_b (tgt := 23) dd_Md_taken_11 (by decide) (fun c11 => ?_) (fun c11 => ?_)
  · have c11 := of_decide_eq_false c11
    have er : rbI tk i = -1 := by
      by_cases hi : i < 0
      · rw [rbI, if_pos hi]
      · obtain ⟨j, hj, rfl, -⟩ := nI_self hi
        rw [rbI_n hj, rb_out (Nat.le_of_not_lt (fun h9 => c11 ⟨Int32.not_lt.mp hi, (nI_ltI hj (by omega)).mpr h9⟩))]
    refine e_iconst (v := -1) dd_Md_taken_23 (by decide) ?_
    exact e_iret dd_Md_taken_24 rfl (mEnd_of (q := (-1, (nm, by_, fs, im, op, pl, tk))) (by rw [mTaken]; exact congrArg (fun z => (z, _)) er) rfl h0 rG.rf)
  · have c11 := of_decide_eq_true c11
    obtain ⟨j, hj, rfl, -⟩ := nI_self (Int32.not_lt.mpr c11.1)
    have hjl : j < tk.length := (nI_ltI hj (by omega)).mp c11.2
    have er : rbI tk (nI j) = nI (tk.getD j 0) := by rw [rbI_n hj, rb_in hjl]
    refine e_aload_n dd_Md_taken_14 rfl ?_
    refine e_get dd_Md_taken_15 kf_Md_44 h69 rfl ?_
    refine e_iload_n dd_Md_taken_18 rfl ?_
    refine e_iald dd_Md_taken_19 hg rfl rfl (by omega) (by decide) ?_
    refine e_top (y := nI (tk.getD j 0)) (hfg j hjl) ?_
    refine e_goto (tgt := 24) dd_Md_taken_20 (by decide) ?_
    exact e_iret dd_Md_taken_24 rfl (mEnd_of (q := (nI (tk.getD j 0), (nm, by_, fs, im, op, pl, tk))) (by rw [mTaken]; exact congrArg (fun z => (z, _)) er) rfl h0 rG.rf)
set_option maxRecDepth 100000 in
set_option maxHeartbeats 4000000 in
theorem c_Md_place (h : mRep w S) : ab_E G mm_Md_place rr_Md_place 0 [(0, .ref 69)] [] w (mEnd w (mPlace S)) := by
  obtain ⟨nm, by_, fs, im, op, pl, tk⟩ := S
  have h0 := h
  obtain ⟨⟨md, rq, hO⟩, hnm, hby, hF, him, ⟨ds, hds⟩, hP, htk, ⟨xs, hxs⟩⟩ := h
  have h69 : w.1 69 = _ := hO
  have hnl := hnm.1
  have hbl := hby.1
  have hfl := hF.1
  have hil := him.1
  have hpl := hP.1
  have htl := htk.1
  refine e_aload_n dd_Md_place_0 rfl ?_
  refine e_get dd_Md_place_1 kf_Md_40 h69 rfl ?_
  exact e_iret dd_Md_place_4 rfl (mEnd_of (q := (_, (nm, by_, fs, im, op, pl, tk))) rfl rfl h0 rG.rf)
set_option maxRecDepth 100000 in
set_option maxHeartbeats 4000000 in
theorem c_Md_count (h : mRep w S) (x : Int32) : ab_E G mm_Md_count rr_Md_count 0 [(0, .ref 69), (1, .int x)] [] w (mEnd w (mCount x S)) := by
  obtain ⟨nm, by_, fs, im, op, pl, tk⟩ := S
  have h0 := h
  obtain ⟨⟨md, rq, hO⟩, hnm, hby, hF, him, ⟨ds, hds⟩, hP, htk, ⟨xs, hxs⟩⟩ := h
  have h69 : w.1 69 = _ := hO
  have hnl := hnm.1
  have hbl := hby.1
  have hfl := hF.1
  have hil := him.1
  have hpl := hP.1
  have htl := htk.1
  rcases sw6 x with rfl | rfl | rfl | rfl | rfl | rfl | hx
  · refine e_iload_n dd_Md_count_0 rfl ?_
    refine e_tableIn (tgt := 40) dd_Md_count_1 (by decide) (by decide) rfl (by decide) ?_
    refine e_aload_n dd_Md_count_40 rfl ?_
    refine e_get dd_Md_count_41 kf_Md_64 h69 rfl ?_
    exact e_iret dd_Md_count_44 rfl (mEnd_of (q := (_, (nm, by_, fs, im, op, pl, tk))) rfl rfl h0 rG.rf)
  · refine e_iload_n dd_Md_count_0 rfl ?_
    refine e_tableIn (tgt := 45) dd_Md_count_1 (by decide) (by decide) rfl (by decide) ?_
    refine e_aload_n dd_Md_count_45 rfl ?_
    refine e_get dd_Md_count_46 kf_Md_124 h69 rfl ?_
    exact e_iret dd_Md_count_49 rfl (mEnd_of (q := (_, (nm, by_, fs, im, op, pl, tk))) rfl rfl h0 rG.rf)
  · refine e_iload_n dd_Md_count_0 rfl ?_
    refine e_tableIn (tgt := 50) dd_Md_count_1 (by decide) (by decide) rfl (by decide) ?_
    refine e_aload_n dd_Md_count_50 rfl ?_
    refine e_get dd_Md_count_51 kf_Md_127 h69 rfl ?_
    exact e_iret dd_Md_count_54 rfl (mEnd_of (q := (_, (nm, by_, fs, im, op, pl, tk))) rfl rfl h0 rG.rf)
  · refine e_iload_n dd_Md_count_0 rfl ?_
    refine e_tableIn (tgt := 55) dd_Md_count_1 (by decide) (by decide) rfl (by decide) ?_
    refine e_aload_n dd_Md_count_55 rfl ?_
    refine e_get dd_Md_count_56 kf_Md_58 h69 rfl ?_
    exact e_iret dd_Md_count_59 rfl (mEnd_of (q := (_, (nm, by_, fs, im, op, pl, tk))) rfl rfl h0 rG.rf)
  · refine e_iload_n dd_Md_count_0 rfl ?_
    refine e_tableIn (tgt := 60) dd_Md_count_1 (by decide) (by decide) rfl (by decide) ?_
    refine e_aload_n dd_Md_count_60 rfl ?_
    refine e_get dd_Md_count_61 kf_Md_61 h69 rfl ?_
    exact e_iret dd_Md_count_64 rfl (mEnd_of (q := (_, (nm, by_, fs, im, op, pl, tk))) rfl rfl h0 rG.rf)
  · refine e_iload_n dd_Md_count_0 rfl ?_
    refine e_tableIn (tgt := 65) dd_Md_count_1 (by decide) (by decide) rfl (by decide) ?_
    refine e_aload_n dd_Md_count_65 rfl ?_
    refine e_get dd_Md_count_66 kf_Md_175 h69 rfl ?_
    exact e_iret dd_Md_count_69 rfl (mEnd_of (q := (_, (nm, by_, fs, im, op, pl, tk))) rfl rfl h0 rG.rf)
  · rw [mCount_out hx]
    refine e_iload_n dd_Md_count_0 rfl ?_
    refine e_tableOut (tgt := 70) dd_Md_count_1 hx (by decide) ?_
    refine e_iconst (v := -1) dd_Md_count_70 (by decide) ?_
    exact e_iret dd_Md_count_71 rfl (mEnd_of (q := (_, (nm, by_, fs, im, op, pl, tk))) rfl rfl h0 rG.rf)
set_option maxRecDepth 100000 in
set_option maxHeartbeats 4000000 in
theorem c_Md_file (h : mRep w S) (f x : Int32) : ab_E G mm_Md_file rr_Md_file 0 [(0, .ref 69), (1, .int f), (2, .int x)] [] w (mEnd w (mFile f x S)) := by
  obtain ⟨nm, by_, fs, im, op, pl, tk⟩ := S
  have h0 := h
  obtain ⟨⟨md, rq, hO⟩, hnm, hby, hF, him, ⟨ds, hds⟩, hP, htk, ⟨xs, hxs⟩⟩ := h
  have h69 : w.1 69 = _ := hO
  have hnl := hnm.1
  have hbl := hby.1
  have hfl := hF.1
  have hil := him.1
  have hpl := hP.1
  have htl := htk.1
  refine e_iload_n dd_Md_file_0 rfl ?_
  refine e_iconst_n 0 dd_Md_file_1 (by decide) ?_
  refine e_aload_n dd_Md_file_2 rfl ?_
  refine e_get dd_Md_file_3 kf_Md_127 h69 rfl ?_
  refine e_iconst_n 1 dd_Md_file_6 (by decide) ?_
  refine e_isub dd_Md_file_7 ?_
  refine e_callSp (d1 := rr_Md_in) (As := [.int f, .int (nI 0), .int ((nI op.length) - (nI 1))]) (st := []) dd_Md_file_8 km_Md_50 (by decide) rfl (Nat.le_of_ble_eq_true rfl) (Nat.le_of_ble_eq_true rfl) rfl rfl (c_Md_in f (nI 0) (nI op.length - nI 1)) ?_
  refine e_top (y := bI (decide (0 ≤ f ∧ f < nI op.length))) (congrArg bI (dec_sub1 (by omega))) ?_
  refine e_if_ne_b (tgt := 16) dd_Md_file_11 (by decide) (fun c11 => ?_) (fun c11 => ?_)
  · have c11 := of_decide_eq_true c11
    obtain ⟨j, hj, rfl, ej⟩ := nI_self (Int32.not_lt.mpr c11.1)
    have hjl : j < op.length := (nI_ltI hj (by omega)).mp c11.2
    have hq : op[j]? = some op[j] := List.getElem?_eq_getElem hjl
    have hok := hP.2.1 op[j] (List.getElem_mem hjl)
    generalize op[j] = q at hq hok
    obtain ⟨-, -, g, h79, hg⟩ := id hP
    obtain ⟨o0, o1, o2, o3, o4, o5, o6⟩ := hg j q hq
    have hq8 := hok.2.1
    have emf : ∀ v, tl q.1 q.2.1 q.2.2.1 q.2.2.2.1 q.2.2.2.2.1 q.2.2.2.2.2 x = v → mFile (nI j) x (nm, by_, fs, im, op, pl, tk) = (v, (nm, by_, fs, im, op, pl, tk)) := fun v hv => by
      simp only [mFile]; rw [if_pos c11, ej, hq]; exact congrArg (fun z => (z, _)) hv
    clear hg
    rcases sw6 x with rfl | rfl | rfl | rfl | rfl | rfl | hx
    · refine e_iload_n dd_Md_file_16 rfl ?_
      refine e_iconst_n 0 dd_Md_file_17 (by decide) ?_
      refine e_iconst_n 5 dd_Md_file_18 (by decide) ?_
      refine e_callSp (d1 := rr_Md_in) (As := [.int 0, .int (nI 0), .int (nI 5)]) (st := []) dd_Md_file_19 km_Md_50 (by decide) rfl (Nat.le_of_ble_eq_true rfl) (Nat.le_of_ble_eq_true rfl) rfl rfl (c_Md_in 0 (nI 0) (nI 5)) ?_
      refine e_if_eq_b (tgt := 32) dd_Md_file_22 (by decide) (fun h9 => absurd h9 (by decide)) (fun _ => ?_)
      refine e_aload_n dd_Md_file_25 rfl ?_
      refine e_iload_n dd_Md_file_26 rfl ?_
      refine e_iload_n dd_Md_file_27 rfl ?_
      refine e_callVp (d1 := rr_Md_of) (As := [.int (nI j), .int 0]) (st := []) dd_Md_file_28 km_Md_153 h69 rfl (by decide) rfl (Nat.le_of_ble_eq_true rfl) (Nat.le_of_ble_eq_true rfl) rfl rfl (c_Md_ofn (k := 0) hO h79 (by omega) o0) ?_
      exact e_iret dd_Md_file_31 rfl (mEnd_of (q := (_, (nm, by_, fs, im, op, pl, tk))) (emf _ rfl) rfl h0 rG.rf)
    · refine e_iload_n dd_Md_file_16 rfl ?_
      refine e_iconst_n 0 dd_Md_file_17 (by decide) ?_
      refine e_iconst_n 5 dd_Md_file_18 (by decide) ?_
      refine e_callSp (d1 := rr_Md_in) (As := [.int 1, .int (nI 0), .int (nI 5)]) (st := []) dd_Md_file_19 km_Md_50 (by decide) rfl (Nat.le_of_ble_eq_true rfl) (Nat.le_of_ble_eq_true rfl) rfl rfl (c_Md_in 1 (nI 0) (nI 5)) ?_
      refine e_if_eq_b (tgt := 32) dd_Md_file_22 (by decide) (fun h9 => absurd h9 (by decide)) (fun _ => ?_)
      refine e_aload_n dd_Md_file_25 rfl ?_
      refine e_iload_n dd_Md_file_26 rfl ?_
      refine e_iload_n dd_Md_file_27 rfl ?_
      refine e_callVp (d1 := rr_Md_of) (As := [.int (nI j), .int 1]) (st := []) dd_Md_file_28 km_Md_153 h69 rfl (by decide) rfl (Nat.le_of_ble_eq_true rfl) (Nat.le_of_ble_eq_true rfl) rfl rfl (c_Md_ofn (k := 1) hO h79 (by omega) o1) ?_
      exact e_iret dd_Md_file_31 rfl (mEnd_of (q := (_, (nm, by_, fs, im, op, pl, tk))) (emf _ rfl) rfl h0 rG.rf)
    · refine e_iload_n dd_Md_file_16 rfl ?_
      refine e_iconst_n 0 dd_Md_file_17 (by decide) ?_
      refine e_iconst_n 5 dd_Md_file_18 (by decide) ?_
      refine e_callSp (d1 := rr_Md_in) (As := [.int 2, .int (nI 0), .int (nI 5)]) (st := []) dd_Md_file_19 km_Md_50 (by decide) rfl (Nat.le_of_ble_eq_true rfl) (Nat.le_of_ble_eq_true rfl) rfl rfl (c_Md_in 2 (nI 0) (nI 5)) ?_
      refine e_if_eq_b (tgt := 32) dd_Md_file_22 (by decide) (fun h9 => absurd h9 (by decide)) (fun _ => ?_)
      refine e_aload_n dd_Md_file_25 rfl ?_
      refine e_iload_n dd_Md_file_26 rfl ?_
      refine e_iload_n dd_Md_file_27 rfl ?_
      refine e_callVp (d1 := rr_Md_of) (As := [.int (nI j), .int 2]) (st := []) dd_Md_file_28 km_Md_153 h69 rfl (by decide) rfl (Nat.le_of_ble_eq_true rfl) (Nat.le_of_ble_eq_true rfl) rfl rfl (c_Md_ofn (k := 2) hO h79 (by omega) o2) ?_
      exact e_iret dd_Md_file_31 rfl (mEnd_of (q := (_, (nm, by_, fs, im, op, pl, tk))) (emf _ rfl) rfl h0 rG.rf)
    · refine e_iload_n dd_Md_file_16 rfl ?_
      refine e_iconst_n 0 dd_Md_file_17 (by decide) ?_
      refine e_iconst_n 5 dd_Md_file_18 (by decide) ?_
      refine e_callSp (d1 := rr_Md_in) (As := [.int 3, .int (nI 0), .int (nI 5)]) (st := []) dd_Md_file_19 km_Md_50 (by decide) rfl (Nat.le_of_ble_eq_true rfl) (Nat.le_of_ble_eq_true rfl) rfl rfl (c_Md_in 3 (nI 0) (nI 5)) ?_
      refine e_if_eq_b (tgt := 32) dd_Md_file_22 (by decide) (fun h9 => absurd h9 (by decide)) (fun _ => ?_)
      refine e_aload_n dd_Md_file_25 rfl ?_
      refine e_iload_n dd_Md_file_26 rfl ?_
      refine e_iload_n dd_Md_file_27 rfl ?_
      refine e_callVp (d1 := rr_Md_of) (As := [.int (nI j), .int 3]) (st := []) dd_Md_file_28 km_Md_153 h69 rfl (by decide) rfl (Nat.le_of_ble_eq_true rfl) (Nat.le_of_ble_eq_true rfl) rfl rfl (c_Md_ofn (k := 3) hO h79 (by omega) o3) ?_
      exact e_iret dd_Md_file_31 rfl (mEnd_of (q := (_, (nm, by_, fs, im, op, pl, tk))) (emf _ rfl) rfl h0 rG.rf)
    · refine e_iload_n dd_Md_file_16 rfl ?_
      refine e_iconst_n 0 dd_Md_file_17 (by decide) ?_
      refine e_iconst_n 5 dd_Md_file_18 (by decide) ?_
      refine e_callSp (d1 := rr_Md_in) (As := [.int 4, .int (nI 0), .int (nI 5)]) (st := []) dd_Md_file_19 km_Md_50 (by decide) rfl (Nat.le_of_ble_eq_true rfl) (Nat.le_of_ble_eq_true rfl) rfl rfl (c_Md_in 4 (nI 0) (nI 5)) ?_
      refine e_if_eq_b (tgt := 32) dd_Md_file_22 (by decide) (fun h9 => absurd h9 (by decide)) (fun _ => ?_)
      refine e_aload_n dd_Md_file_25 rfl ?_
      refine e_iload_n dd_Md_file_26 rfl ?_
      refine e_iload_n dd_Md_file_27 rfl ?_
      refine e_callVp (d1 := rr_Md_of) (As := [.int (nI j), .int 4]) (st := []) dd_Md_file_28 km_Md_153 h69 rfl (by decide) rfl (Nat.le_of_ble_eq_true rfl) (Nat.le_of_ble_eq_true rfl) rfl rfl (c_Md_ofn (k := 4) hO h79 (by omega) o4) ?_
      exact e_iret dd_Md_file_31 rfl (mEnd_of (q := (_, (nm, by_, fs, im, op, pl, tk))) (emf _ rfl) rfl h0 rG.rf)
    · refine e_iload_n dd_Md_file_16 rfl ?_
      refine e_iconst_n 0 dd_Md_file_17 (by decide) ?_
      refine e_iconst_n 5 dd_Md_file_18 (by decide) ?_
      refine e_callSp (d1 := rr_Md_in) (As := [.int 5, .int (nI 0), .int (nI 5)]) (st := []) dd_Md_file_19 km_Md_50 (by decide) rfl (Nat.le_of_ble_eq_true rfl) (Nat.le_of_ble_eq_true rfl) rfl rfl (c_Md_in 5 (nI 0) (nI 5)) ?_
      refine e_if_eq_b (tgt := 32) dd_Md_file_22 (by decide) (fun h9 => absurd h9 (by decide)) (fun _ => ?_)
      refine e_aload_n dd_Md_file_25 rfl ?_
      refine e_iload_n dd_Md_file_26 rfl ?_
      refine e_iload_n dd_Md_file_27 rfl ?_
      refine e_callVp (d1 := rr_Md_of) (As := [.int (nI j), .int 5]) (st := []) dd_Md_file_28 km_Md_153 h69 rfl (by decide) rfl (Nat.le_of_ble_eq_true rfl) (Nat.le_of_ble_eq_true rfl) rfl rfl (c_Md_ofn (k := 5) hO h79 (by omega) o5) ?_
      exact e_iret dd_Md_file_31 rfl (mEnd_of (q := (_, (nm, by_, fs, im, op, pl, tk))) (emf _ rfl) rfl h0 rG.rf)
    · have hnin : ¬ (nI 0 ≤ x ∧ x ≤ nI 5) := fun h9 => by
        have a1 := Int32.le_iff_toInt_le.mp h9.1
        have a2 := Int32.le_iff_toInt_le.mp h9.2
        have b1 : (nI 0).toInt = 0 := rfl
        have b2 : (nI 5).toInt = 5 := rfl
        omega
      rw [tl_out hx] at emf
      refine e_iload_n dd_Md_file_16 rfl ?_
      refine e_iconst_n 0 dd_Md_file_17 (by decide) ?_
      refine e_iconst_n 5 dd_Md_file_18 (by decide) ?_
      refine e_callSp (d1 := rr_Md_in) (As := [.int x, .int (nI 0), .int (nI 5)]) (st := []) dd_Md_file_19 km_Md_50 (by decide) rfl (Nat.le_of_ble_eq_true rfl) (Nat.le_of_ble_eq_true rfl) rfl rfl (c_Md_in x (nI 0) (nI 5)) ?_
      refine e_if_eq_b (tgt := 32) dd_Md_file_22 (by decide) (fun _ => ?_) (fun h9 => absurd h9 (by rw [decide_eq_false hnin]; decide))
      refine e_iload_n dd_Md_file_32 rfl ?_
      refine e_bipush_n 16 dd_Md_file_33 (by decide) ?_
      refine e_icmp_lt (tgt := 63) dd_Md_file_35 (by decide) (fun c35 => ?_) (fun c35 => ?_)
      · refine e_iconst (v := -1) dd_Md_file_63 (by decide) ?_
        exact e_iret dd_Md_file_64 rfl (mEnd_of (q := (-1, (nm, by_, fs, im, op, pl, tk))) (emf _ (if_pos c35)) rfl h0 rG.rf)
      · rw [if_neg (show ¬ x < 16 from c35)] at emf
        obtain ⟨v, hv, rfl, ev⟩ := nI_self (x := x) (fun h9 => c35 (Int32.lt_trans h9 (by decide)))
        have hv16 : 16 ≤ v := by
          have := mt (nI_ltI hv (by decide : 16 < 2 ^ 31)).mpr c35
          omega
        rw [show nI v - 16 = nI (v - 16) from pk_sub hv16, rbI_n (by omega)] at emf
        refine e_iload_n dd_Md_file_38 rfl ?_
        refine e_bipush_n 16 dd_Md_file_39 (by decide) ?_
        refine e_isub_n dd_Md_file_41 (by omega) ?_
        refine e_aload_n dd_Md_file_42 rfl ?_
        refine e_iload_n dd_Md_file_43 rfl ?_
        refine e_iconst_n 1 dd_Md_file_44 (by decide) ?_
        refine e_callVp (d1 := rr_Md_of) (As := [.int (nI j), .int (nI 1)]) (st := [.int (nI (v - 16))]) dd_Md_file_45 km_Md_153 h69 rfl (by decide) rfl (Nat.le_of_ble_eq_true rfl) (Nat.le_of_ble_eq_true rfl) rfl rfl (c_Md_ofn (k := 1) hO h79 (by omega) o1) ?_
        refine e_icmp_ge_n (tgt := 63) dd_Md_file_48 (by decide) (by omega) (by omega) (fun c48 => ?_) (fun c48 => ?_)
        · refine e_iconst (v := -1) dd_Md_file_63 (by decide) ?_
          exact e_iret dd_Md_file_64 rfl (mEnd_of (q := (-1, (nm, by_, fs, im, op, pl, tk))) (emf _ (rb_out c48)) rfl h0 rG.rf)
        · refine e_aload_n dd_Md_file_51 rfl ?_
          refine e_iload_n dd_Md_file_52 rfl ?_
          refine e_iload_n dd_Md_file_53 rfl ?_
          refine e_bipush_n 10 dd_Md_file_54 (by decide) ?_
          refine e_isub_n dd_Md_file_56 (by omega) ?_
          refine e_callVp (d1 := rr_Md_of) (As := [.int (nI j), .int (nI (v - 10))]) (st := []) dd_Md_file_57 km_Md_153 h69 rfl (by decide) rfl (Nat.le_of_ble_eq_true rfl) (Nat.le_of_ble_eq_true rfl) rfl rfl (c_Md_ofn (k := v - 10) (v := q.1.getD (v - 16) 0) hO h79 (by omega) (by have := o6 (v - 16) c48; rwa [show 6 + (v - 16) = v - 10 by omega] at this)) ?_
          refine e_goto (tgt := 64) dd_Md_file_60 (by decide) ?_
          exact e_iret dd_Md_file_64 rfl (mEnd_of (q := (_, (nm, by_, fs, im, op, pl, tk))) (emf _ (rb_in c48)) rfl h0 rG.rf)
  · have c11 := of_decide_eq_false c11
    refine e_iconst (v := -1) dd_Md_file_14 (by decide) ?_
    exact e_iret dd_Md_file_15 rfl (mEnd_of (q := (_, (nm, by_, fs, im, op, pl, tk))) (by simp only [mFile]; rw [if_neg c11]) rfl h0 rG.rf)
end MD
