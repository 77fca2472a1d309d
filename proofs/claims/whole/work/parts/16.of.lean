/-! ArchiveBench$OpenFile. -/
/-- an open file at f with its name at r, a: name, method, place, squeezed bytes, bytes, CHECK -/
def cOF (w : ab_W) (f r a : Nat) (nm : List Nat) (m at_ sl n ck : Nat) : Prop := w.1 f = some (.inr (5, [.ref r, .int (nI m), .int (nI at_), .int (nI sl), .int (nI n), .int (nI ck)])) ∧ cR w r a 8 nm
def tl (nm : List Nat) (m at_ sl n ck : Nat) (x : Int32) : Int32 := if x = 0 then nI m else if x = 1 then nI nm.length else if x = 2 then nI at_ else if x = 3 then nI sl else if x = 4 then nI n else if x = 5 then nI ck else if x < 16 then -1 else rbI nm (x - 16)
theorem sw6 (x : Int32) : x = 0 ∨ x = 1 ∨ x = 2 ∨ x = 3 ∨ x = 4 ∨ x = 5 ∨ (x.toInt < 0 ∨ 5 < x.toInt) := by
  by_cases h : x.toInt < 0 ∨ 5 < x.toInt
  · exact Or.inr (Or.inr (Or.inr (Or.inr (Or.inr (Or.inr h)))))
  · have h1 : x.toInt = 0 ∨ x.toInt = 1 ∨ x.toInt = 2 ∨ x.toInt = 3 ∨ x.toInt = 4 ∨ x.toInt = 5 := by omega
    rcases h1 with h1 | h1 | h1 | h1 | h1 | h1
    · exact Or.inl (Int32.toInt_inj.mp h1)
    · exact Or.inr (Or.inl (Int32.toInt_inj.mp h1))
    · exact Or.inr (Or.inr (Or.inl (Int32.toInt_inj.mp h1)))
    · exact Or.inr (Or.inr (Or.inr (Or.inl (Int32.toInt_inj.mp h1))))
    · exact Or.inr (Or.inr (Or.inr (Or.inr (Or.inl (Int32.toInt_inj.mp h1)))))
    · exact Or.inr (Or.inr (Or.inr (Or.inr (Or.inr (Or.inl (Int32.toInt_inj.mp h1))))))
theorem tl_out {nm : List Nat} {m at_ sl n ck : Nat} {x : Int32} (h : x.toInt < 0 ∨ 5 < x.toInt) : tl nm m at_ sl n ck x = if x < 16 then -1 else rbI nm (x - 16) := by
  have hne : ∀ k : Int32, (0 ≤ k.toInt ∧ k.toInt ≤ 5) → ¬ x = k := fun k hk e => by rw [e] at h; omega
  rw [tl, if_neg (hne 0 (by decide)), if_neg (hne 1 (by decide)), if_neg (hne 2 (by decide)), if_neg (hne 3 (by decide)), if_neg (hne 4 (by decide)), if_neg (hne 5 (by decide))]
section OF
variable {G : ab_G} {w : ab_W} {f r a : Nat} {nm : List Nat} {m at_ sl n ck : Nat}
set_option maxRecDepth 100000 in
set_option maxHeartbeats 4000000 in
theorem c_OF_tell (h : cOF w f r a nm m at_ sl n ck) (x : Int32) : ab_E G mm_OF_tell rr_OF_tell 0 [(0, .ref f), (1, .int x)] [] w (pP (tl nm m at_ sl n ck x) w) := by
  obtain ⟨hf, h⟩ := h
  have hr := h.obj
  rcases sw6 x with rfl | rfl | rfl | rfl | rfl | rfl | hx
  · refine e_iload_n dd_OF_tell_0 rfl ?_
    refine e_tableIn (tgt := 40) dd_OF_tell_1 (by decide) (by decide) rfl (by decide) ?_
    refine e_aload_n dd_OF_tell_40 rfl ?_
    refine e_get dd_OF_tell_41 kf_OF_20 hf rfl ?_
    exact e_iret dd_OF_tell_44 rfl (pP_of rfl)
  · refine e_iload_n dd_OF_tell_0 rfl ?_
    refine e_tableIn (tgt := 45) dd_OF_tell_1 (by decide) (by decide) rfl (by decide) ?_
    refine e_aload_n dd_OF_tell_45 rfl ?_
    refine e_get dd_OF_tell_46 kf_OF_14 hf rfl ?_
    refine e_get dd_OF_tell_49 kf_OF_24 hr rfl ?_
    exact e_iret dd_OF_tell_52 rfl (pP_of rfl)
  · refine e_iload_n dd_OF_tell_0 rfl ?_
    refine e_tableIn (tgt := 53) dd_OF_tell_1 (by decide) (by decide) rfl (by decide) ?_
    refine e_aload_n dd_OF_tell_53 rfl ?_
    refine e_get dd_OF_tell_54 kf_OF_27 hf rfl ?_
    exact e_iret dd_OF_tell_57 rfl (pP_of rfl)
  · refine e_iload_n dd_OF_tell_0 rfl ?_
    refine e_tableIn (tgt := 58) dd_OF_tell_1 (by decide) (by decide) rfl (by decide) ?_
    refine e_aload_n dd_OF_tell_58 rfl ?_
    refine e_get dd_OF_tell_59 kf_OF_30 hf rfl ?_
    exact e_iret dd_OF_tell_62 rfl (pP_of rfl)
  · refine e_iload_n dd_OF_tell_0 rfl ?_
    refine e_tableIn (tgt := 63) dd_OF_tell_1 (by decide) (by decide) rfl (by decide) ?_
    refine e_aload_n dd_OF_tell_63 rfl ?_
    refine e_get dd_OF_tell_64 kf_OF_33 hf rfl ?_
    exact e_iret dd_OF_tell_67 rfl (pP_of rfl)
  · refine e_iload_n dd_OF_tell_0 rfl ?_
    refine e_tableIn (tgt := 68) dd_OF_tell_1 (by decide) (by decide) rfl (by decide) ?_
    refine e_aload_n dd_OF_tell_68 rfl ?_
    refine e_get dd_OF_tell_69 kf_OF_34 hf rfl ?_
    exact e_iret dd_OF_tell_72 rfl (pP_of rfl)
  · rw [tl_out hx]
    refine e_iload_n dd_OF_tell_0 rfl ?_
    refine e_tableOut (tgt := 73) dd_OF_tell_1 hx (by decide) ?_
    refine e_iload_n dd_OF_tell_73 rfl ?_
    refine e_bipush_n 16 dd_OF_tell_74 (by decide) ?_
    refine e_icmp_ge (tgt := 83) dd_OF_tell_76 (by decide) (fun c76 => ?_) (fun c76 => ?_)
    · refine e_aload_n dd_OF_tell_83 rfl ?_
      refine e_get dd_OF_tell_84 kf_OF_14 hf rfl ?_
      refine e_iload_n dd_OF_tell_87 rfl ?_
      refine e_bipush_n 16 dd_OF_tell_88 (by decide) ?_
      refine e_isub dd_OF_tell_90 ?_
      refine e_callVp (d1 := rr_Row_at) (As := [.int (x - (nI 16))]) (st := []) dd_OF_tell_91 km_OF_37 hr rfl (by decide) rfl (Nat.le_of_ble_eq_true rfl) (Nat.le_of_ble_eq_true rfl) rfl rfl (c_Row_at h (x - nI 16)) ?_
      exact e_iret dd_OF_tell_94 rfl (pP_of (by rw [if_neg (show ¬ x < 16 from Int32.not_lt.mpr c76)]; rfl))
    · refine e_iconst (v := -1) dd_OF_tell_79 (by decide) ?_
      refine e_goto (tgt := 94) dd_OF_tell_80 (by decide) ?_
      exact e_iret dd_OF_tell_94 rfl (pP_of (by rw [if_pos (show x < 16 from Int32.not_le.mp c76)]))
/-- a part of a name that is not empty, and not two dots -/
def sp (nm : List Nat) (b e : Nat) : Bool := decide (b < e ∧ ¬ (e - b = 2 ∧ nm.getD b 0 = 46 ∧ nm.getD (b + 1) 0 = 46))
set_option maxRecDepth 100000 in
set_option maxHeartbeats 4000000 in
theorem c_OF_isSafePart (h : cOF w f r a nm m at_ sl n ck) {b e : Nat} (hb : b ≤ e) (he : e ≤ nm.length) : ab_E G mm_OF_isSafePart rr_OF_isSafePart 0 [(0, .ref f), (1, .int (nI b)), (2, .int (nI e))] [] w (pP (bI (sp nm b e)) w) := by
  obtain ⟨hf, h⟩ := h
  have hr := h.obj
  have hlt := h.lt
  have hby := h.2.2.2.2.1
  refine e_iload_n dd_OF_isSafePart_0 rfl ?_
  refine e_iload_n dd_OF_isSafePart_1 rfl ?_
  refine e_isub_n dd_OF_isSafePart_2 (by omega) ?_
  refine e_iconst_n 2 dd_OF_isSafePart_3 (by decide) ?_
  refine e_icmp_ne_n (tgt := 39) dd_OF_isSafePart_4 (by decide) (by omega) (by omega) (fun c4 => ?_) (fun c4 => ?_)
  · refine e_iconst_n 0 dd_OF_isSafePart_39 (by decide) ?_
    refine e_istore_n (lv1 := [(0, .ref f), (1, .int (nI b)), (2, .int (nI e)), (3, .int (nI 0))]) dd_OF_isSafePart_40 (by decide) rfl ?_
    refine e_iload_n dd_OF_isSafePart_41 rfl ?_
    refine e_iload_n dd_OF_isSafePart_42 rfl ?_
    refine e_icmp_le_n (tgt := 54) dd_OF_isSafePart_43 (by decide) (by omega) (by omega) (fun c43 => ?_) (fun c43 => ?_)
    · refine e_iconst_n 0 dd_OF_isSafePart_54 (by decide) ?_
      exact e_zret dd_OF_isSafePart_55 rfl (by decide) (pP_of (bI_f (decide_eq_false (by omega))))
    · refine e_iload_n dd_OF_isSafePart_46 rfl ?_
      refine e_if_ne_n (tgt := 54) dd_OF_isSafePart_47 (by decide) (by omega) (fun h9 => absurd h9 (by decide)) (fun _ => ?_)
      refine e_iconst_n 1 dd_OF_isSafePart_50 (by decide) ?_
      refine e_goto (tgt := 55) dd_OF_isSafePart_51 (by decide) ?_
      exact e_zret dd_OF_isSafePart_55 rfl (by decide) (pP_of (bI_t (decide_eq_true (by omega))))
  · have g1 := getD_lt hby (j := b) (by omega)
    have g2 := getD_lt hby (j := b + 1) (by omega)
    refine e_aload_n dd_OF_isSafePart_7 rfl ?_
    refine e_get dd_OF_isSafePart_8 kf_OF_14 hf rfl ?_
    refine e_iload_n dd_OF_isSafePart_11 rfl ?_
    refine e_callVp (d1 := rr_Row_at) (As := [.int (nI b)]) (st := []) dd_OF_isSafePart_12 km_OF_37 hr rfl (by decide) rfl (Nat.le_of_ble_eq_true rfl) (Nat.le_of_ble_eq_true rfl) rfl rfl (c_Row_ati h (by omega)) ?_
    refine e_bipush_n 46 dd_OF_isSafePart_15 (by decide) ?_
    refine e_icmp_ne_n (tgt := 39) dd_OF_isSafePart_17 (by decide) (by omega) (by omega) (fun c17 => ?_) (fun c17 => ?_)
    · refine e_iconst_n 0 dd_OF_isSafePart_39 (by decide) ?_
      refine e_istore_n (lv1 := [(0, .ref f), (1, .int (nI b)), (2, .int (nI e)), (3, .int (nI 0))]) dd_OF_isSafePart_40 (by decide) rfl ?_
      refine e_iload_n dd_OF_isSafePart_41 rfl ?_
      refine e_iload_n dd_OF_isSafePart_42 rfl ?_
      refine e_icmp_le_n (tgt := 54) dd_OF_isSafePart_43 (by decide) (by omega) (by omega) (fun c43 => ?_) (fun c43 => ?_)
      · refine e_iconst_n 0 dd_OF_isSafePart_54 (by decide) ?_
        exact e_zret dd_OF_isSafePart_55 rfl (by decide) (pP_of (bI_f (decide_eq_false (by omega))))
      · refine e_iload_n dd_OF_isSafePart_46 rfl ?_
        refine e_if_ne_n (tgt := 54) dd_OF_isSafePart_47 (by decide) (by omega) (fun h9 => absurd h9 (by decide)) (fun _ => ?_)
        refine e_iconst_n 1 dd_OF_isSafePart_50 (by decide) ?_
        refine e_goto (tgt := 55) dd_OF_isSafePart_51 (by decide) ?_
        exact e_zret dd_OF_isSafePart_55 rfl (by decide) (pP_of (bI_t (decide_eq_true (by omega))))
    · refine e_aload_n dd_OF_isSafePart_20 rfl ?_
      refine e_get dd_OF_isSafePart_21 kf_OF_14 hf rfl ?_
      refine e_iload_n dd_OF_isSafePart_24 rfl ?_
      refine e_iconst_n 1 dd_OF_isSafePart_25 (by decide) ?_
      refine e_iadd_n dd_OF_isSafePart_26 ?_
      refine e_callVp (d1 := rr_Row_at) (As := [.int (nI (b + 1))]) (st := []) dd_OF_isSafePart_27 km_OF_37 hr rfl (by decide) rfl (Nat.le_of_ble_eq_true rfl) (Nat.le_of_ble_eq_true rfl) rfl rfl (c_Row_ati h (by omega)) ?_
      refine e_bipush_n 46 dd_OF_isSafePart_30 (by decide) ?_
      refine e_icmp_ne_n (tgt := 39) dd_OF_isSafePart_32 (by decide) (by omega) (by omega) (fun c32 => ?_) (fun c32 => ?_)
      · refine e_iconst_n 0 dd_OF_isSafePart_39 (by decide) ?_
        refine e_istore_n (lv1 := [(0, .ref f), (1, .int (nI b)), (2, .int (nI e)), (3, .int (nI 0))]) dd_OF_isSafePart_40 (by decide) rfl ?_
        refine e_iload_n dd_OF_isSafePart_41 rfl ?_
        refine e_iload_n dd_OF_isSafePart_42 rfl ?_
        refine e_icmp_le_n (tgt := 54) dd_OF_isSafePart_43 (by decide) (by omega) (by omega) (fun c43 => ?_) (fun c43 => ?_)
        · refine e_iconst_n 0 dd_OF_isSafePart_54 (by decide) ?_
          exact e_zret dd_OF_isSafePart_55 rfl (by decide) (pP_of (bI_f (decide_eq_false (by omega))))
        · refine e_iload_n dd_OF_isSafePart_46 rfl ?_
          refine e_if_ne_n (tgt := 54) dd_OF_isSafePart_47 (by decide) (by omega) (fun h9 => absurd h9 (by decide)) (fun _ => ?_)
          refine e_iconst_n 1 dd_OF_isSafePart_50 (by decide) ?_
          refine e_goto (tgt := 55) dd_OF_isSafePart_51 (by decide) ?_
          exact e_zret dd_OF_isSafePart_55 rfl (by decide) (pP_of (bI_t (decide_eq_true (by omega))))
      · refine e_iconst_n 1 dd_OF_isSafePart_35 (by decide) ?_
        refine e_goto (tgt := 40) dd_OF_isSafePart_36 (by decide) ?_
        refine e_istore_n (lv1 := [(0, .ref f), (1, .int (nI b)), (2, .int (nI e)), (3, .int (nI 1))]) dd_OF_isSafePart_40 (by decide) rfl ?_
        refine e_iload_n dd_OF_isSafePart_41 rfl ?_
        refine e_iload_n dd_OF_isSafePart_42 rfl ?_
        refine e_icmp_le_n (tgt := 54) dd_OF_isSafePart_43 (by decide) (by omega) (by omega) (fun c43 => ?_) (fun c43 => ?_)
        · refine e_iconst_n 0 dd_OF_isSafePart_54 (by decide) ?_
          exact e_zret dd_OF_isSafePart_55 rfl (by decide) (pP_of (bI_f (decide_eq_false (by omega))))
        · refine e_iload_n dd_OF_isSafePart_46 rfl ?_
          refine e_if_ne_n (tgt := 54) dd_OF_isSafePart_47 (by decide) (by omega) (fun _ => ?_) (fun h9 => absurd h9 (by decide))
          refine e_iconst_n 0 dd_OF_isSafePart_54 (by decide) ?_
          exact e_zret dd_OF_isSafePart_55 rfl (by decide) (pP_of (bI_f (decide_eq_false (by omega))))
/-- scanning a name: the length of the part so far, its dots -/
def sfF (nm : List Nat) : Nat → Nat → Nat → Nat → Bool
  | 0, _, _, _ => true
  | k + 1, i, pt, ds => if i = nm.length ∨ nm.getD i 0 = 47 then (if pt = 0 ∨ (pt = 2 ∧ ds = 2) then false else sfF nm k (i + 1) 0 0) else sfF nm k (i + 1) (pt + 1) (if nm.getD i 0 = 46 then ds + 1 else ds)
def safe (nm : List Nat) : Bool := sfF nm (nm.length + 1) 0 0 0
def dc (nm : List Nat) (b : Nat) : Nat → Nat
  | 0 => 0
  | n + 1 => if nm.getD (b + n) 0 = 46 then dc nm b n + 1 else dc nm b n
theorem sp_dc (nm : List Nat) {i pt : Nat} (hp : pt ≤ i) : sp nm (i - pt) i = true ↔ ¬ (pt = 0 ∨ (pt = 2 ∧ dc nm (i - pt) pt = 2)) := by
  rw [sp, decide_eq_true_iff]
  by_cases h2 : pt = 2
  · subst h2
    simp only [dc, Nat.add_zero]
    generalize nm.getD (i - 2) 0 = u
    generalize nm.getD (i - 2 + 1) 0 = v
    by_cases h3 : u = 46 <;> by_cases h4 : v = 46 <;> simp [h3, h4] <;> omega
  · simp [h2]
    omega
set_option maxRecDepth 100000 in
set_option maxHeartbeats 4000000 in
theorem l_OF_safe (h : cOF w f r a nm m at_ sl n ck) : ∀ k i pt ds, i + k = nm.length + 1 → pt ≤ i → ds = dc nm (i - pt) pt → ab_E G mm_OF_hasSafeName rr_OF_hasSafeName 4 [(0, .ref f), (1, .int (nI (i - pt))), (2, .int (nI i))] [] w (pP (bI (sfF nm k i pt ds)) w) := by
  have h0 := h
  obtain ⟨hf, h⟩ := h
  have hr := h.obj
  have hlt := h.lt
  have hby := h.2.2.2.2.1
  intro k
  induction k with
  | zero =>
    intro i pt ds hi hp hd
    refine e_iload_n dd_OF_hasSafeName_4 rfl ?_
    refine e_aload_n dd_OF_hasSafeName_5 rfl ?_
    refine e_get dd_OF_hasSafeName_6 kf_OF_14 hf rfl ?_
    refine e_get dd_OF_hasSafeName_9 kf_OF_24 hr rfl ?_
    refine e_icmp_gt_n (tgt := 60) dd_OF_hasSafeName_12 (by decide) (by omega) (by omega) (fun _ => ?_) (fun h9 => absurd h9 (by omega))
    refine e_iconst_n 1 dd_OF_hasSafeName_60 (by decide) ?_
    exact e_zret dd_OF_hasSafeName_61 rfl (by decide) (pP_of rfl)
  | succ k ih =>
    intro i pt ds hi hp hd
    have hsp := sp_dc nm hp
    rw [← hd] at hsp
    unfold sfF
    have part : (i = nm.length ∨ nm.getD i 0 = 47) → ab_E G mm_OF_hasSafeName rr_OF_hasSafeName 39 [(0, .ref f), (1, .int (nI (i - pt))), (2, .int (nI i))] [] w (pP (bI (if pt = 0 ∨ (pt = 2 ∧ ds = 2) then false else sfF nm k (i + 1) 0 0)) w) := by
      intro hc
      refine e_aload_n dd_OF_hasSafeName_39 rfl ?_
      refine e_iload_n dd_OF_hasSafeName_40 rfl ?_
      refine e_iload_n dd_OF_hasSafeName_41 rfl ?_
      refine e_callVp (d1 := rr_OF_isSafePart) (As := [.int (nI (i - pt)), .int (nI i)]) (st := []) dd_OF_hasSafeName_42 km_OF_41 hf rfl (by decide) rfl (Nat.le_of_ble_eq_true rfl) (Nat.le_of_ble_eq_true rfl) rfl rfl (c_OF_isSafePart h0 (by omega) (by omega)) ?_
      refine e_if_ne_b (tgt := 50) dd_OF_hasSafeName_45 (by decide) (fun c45 => ?_) (fun c45 => ?_)
      · refine e_iload_n dd_OF_hasSafeName_50 rfl ?_
        refine e_iconst_n 1 dd_OF_hasSafeName_51 (by decide) ?_
        refine e_iadd_n dd_OF_hasSafeName_52 ?_
        refine e_istore_n (lv1 := [(0, .ref f), (1, .int (nI (i + 1))), (2, .int (nI i))]) dd_OF_hasSafeName_53 (by decide) rfl ?_
        refine e_iinc_n (a := i) (k := 1) (lv1 := [(0, .ref f), (1, .int (nI (i + 1))), (2, .int (nI (i + 1)))]) dd_OF_hasSafeName_54 rfl (by decide) (by decide) rfl ?_
        refine e_goto (tgt := 4) dd_OF_hasSafeName_57 (by decide) ?_
        rw [if_neg (hsp.mp c45)]
        exact ih (i + 1) 0 0 (by omega) (by omega) rfl
      · refine e_iconst_n 0 dd_OF_hasSafeName_48 (by decide) ?_
        exact e_zret dd_OF_hasSafeName_49 rfl (by decide) (pP_of (by rw [if_pos (Classical.not_not.mp (fun h9 => absurd (hsp.mpr h9) (by rw [c45]; decide)))]; rfl))
    refine e_iload_n dd_OF_hasSafeName_4 rfl ?_
    refine e_aload_n dd_OF_hasSafeName_5 rfl ?_
    refine e_get dd_OF_hasSafeName_6 kf_OF_14 hf rfl ?_
    refine e_get dd_OF_hasSafeName_9 kf_OF_24 hr rfl ?_
    refine e_icmp_gt_n (tgt := 60) dd_OF_hasSafeName_12 (by decide) (by omega) (by omega) (fun h9 => absurd h9 (by omega)) (fun _ => ?_)
    refine e_iload_n dd_OF_hasSafeName_15 rfl ?_
    refine e_aload_n dd_OF_hasSafeName_16 rfl ?_
    refine e_get dd_OF_hasSafeName_17 kf_OF_14 hf rfl ?_
    refine e_get dd_OF_hasSafeName_20 kf_OF_24 hr rfl ?_
    refine e_icmp_eq_n (tgt := 39) dd_OF_hasSafeName_23 (by decide) (by omega) (by omega) (fun c23 => ?_) (fun c23 => ?_)
    · rw [if_pos (Or.inl c23)]
      exact part (Or.inl c23)
    · refine e_aload_n dd_OF_hasSafeName_26 rfl ?_
      refine e_get dd_OF_hasSafeName_27 kf_OF_14 hf rfl ?_
      refine e_iload_n dd_OF_hasSafeName_30 rfl ?_
      refine e_callVp (d1 := rr_Row_at) (As := [.int (nI i)]) (st := []) dd_OF_hasSafeName_31 km_OF_37 hr rfl (by decide) rfl (Nat.le_of_ble_eq_true rfl) (Nat.le_of_ble_eq_true rfl) rfl rfl (c_Row_ati h (by omega)) ?_
      have g1 := getD_lt hby (j := i) (by omega)
      refine e_bipush_n 47 dd_OF_hasSafeName_34 (by decide) ?_
      refine e_icmp_ne_n (tgt := 54) dd_OF_hasSafeName_36 (by decide) (by omega) (by omega) (fun c36 => ?_) (fun c36 => ?_)
      · refine e_iinc_n (a := i) (k := 1) (lv1 := [(0, .ref f), (1, .int (nI (i - pt))), (2, .int (nI (i + 1)))]) dd_OF_hasSafeName_54 rfl (by decide) (by decide) rfl ?_
        refine e_goto (tgt := 4) dd_OF_hasSafeName_57 (by decide) ?_
        rw [if_neg (by omega)]
        have K := ih (i + 1) (pt + 1) (if nm.getD i 0 = 46 then ds + 1 else ds) (by omega) (by omega) (by
          rw [show i + 1 - (pt + 1) = i - pt by omega, dc, show i - pt + pt = i by omega, hd])
        rw [show i + 1 - (pt + 1) = i - pt by omega] at K
        exact K
      · rw [if_pos (Or.inr c36)]
        exact part (Or.inr c36)
set_option maxRecDepth 100000 in
set_option maxHeartbeats 4000000 in
theorem c_OF_hasSafeName (h : cOF w f r a nm m at_ sl n ck) : ab_E G mm_OF_hasSafeName rr_OF_hasSafeName 0 [(0, .ref f)] [] w (pP (bI (safe nm)) w) := by
  refine e_iconst_n 0 dd_OF_hasSafeName_0 (by decide) ?_
  refine e_istore_n (lv1 := [(0, .ref f), (1, .int (nI 0))]) dd_OF_hasSafeName_1 (by decide) rfl ?_
  refine e_iconst_n 0 dd_OF_hasSafeName_2 (by decide) ?_
  refine e_istore_n (lv1 := [(0, .ref f), (1, .int (nI 0)), (2, .int (nI 0))]) dd_OF_hasSafeName_3 (by decide) rfl ?_
  exact l_OF_safe h (nm.length + 1) 0 0 0 (by omega) (Nat.le_refl _) rfl
end OF
