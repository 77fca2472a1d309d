/-! Bytes, characters; ArchiveBench$Archive: what it reads with. -/
def nchI (x : Int32) : Bool := decide ((nI 97 ≤ x ∧ x ≤ nI 122) ∨ x = nI 46 ∨ x = nI 47)
def nch (b : Nat) : Bool := decide ((97 ≤ b ∧ b ≤ 122) ∨ b = 46 ∨ b = 47)
def isBI (x : Int32) : Bool := decide (0 ≤ x ∧ x ≤ nI 255)
theorem nchI_n {b : Nat} (h : b < 2 ^ 31) : nchI (nI b) = nch b := by
  unfold nchI nch
  apply decide_eq_decide.mpr
  rw [nI_leI (by decide) h, nI_leI h (by decide), nI_eq h (by decide), nI_eq h (by decide)]
theorem isBI_n {x : Int32} (h : isBI x = true) : ∃ b : Nat, b < 256 ∧ x = nI b := by
  obtain ⟨h1, h2⟩ := of_decide_eq_true h
  obtain ⟨j, hj, e⟩ := nI_of2 (n := 255) (M := nI 255) (by decide) (Int32.not_lt.mpr h1) h2
  exact ⟨j, by omega, e⟩
theorem nchI_b {x : Int32} (h : nchI x = true) : ∃ b : Nat, b < 256 ∧ x = nI b ∧ nch b = true := by
  have h0 := of_decide_eq_true h
  have key : ∃ b : Nat, b < 256 ∧ x = nI b := by
    rcases h0 with ⟨h1, h2⟩ | h1 | h1
    · have h3 : ¬ x < 0 := by
        intro h4
        have h5 : nI 97 < 0 := Int32.lt_of_le_of_lt h1 h4
        exact absurd h5 (by decide)
      obtain ⟨j, hj, e⟩ := nI_of2 (n := 122) (M := nI 122) (by decide) h3 h2
      exact ⟨j, by omega, e⟩
    · exact ⟨46, by decide, h1⟩
    · exact ⟨47, by decide, h1⟩
  obtain ⟨b, hb, rfl⟩ := key
  exact ⟨b, hb, rfl, by rw [← nchI_n (by omega)]; exact h⟩
section AR
variable {G : ab_G} {w : ab_W} {o cu li : Nat} {en : Int32} {im : List Nat}
set_option maxRecDepth 100000 in
set_option maxHeartbeats 4000000 in
theorem c_AB_isNameCharacter (x : Int32) : ab_E G mm_AB_isNameCharacter rr_AB_isNameCharacter 0 [(0, .int x)] [] w (pP (bI (nchI x)) w) := by
  refine e_iload_n dd_AB_isNameCharacter_0 rfl ?_
  refine e_bipush_n 97 dd_AB_isNameCharacter_1 (by decide) ?_
  refine e_icmp_lt (tgt := 12) dd_AB_isNameCharacter_3 (by decide) (fun c3 => ?_) (fun c3 => ?_)
  · refine e_iload_n dd_AB_isNameCharacter_12 rfl ?_
    refine e_bipush_n 46 dd_AB_isNameCharacter_13 (by decide) ?_
    refine e_icmp_eq (tgt := 24) dd_AB_isNameCharacter_15 (by decide) (fun c15 => ?_) (fun c15 => ?_)
    · refine e_iconst_n 1 dd_AB_isNameCharacter_24 (by decide) ?_
      refine e_goto (tgt := 29) dd_AB_isNameCharacter_25 (by decide) ?_
      exact e_zret dd_AB_isNameCharacter_29 rfl (by decide) (pP_of (bI_t (decide_eq_true (Or.inr (Or.inl c15)))))
    · refine e_iload_n dd_AB_isNameCharacter_18 rfl ?_
      refine e_bipush_n 47 dd_AB_isNameCharacter_19 (by decide) ?_
      refine e_icmp_ne (tgt := 28) dd_AB_isNameCharacter_21 (by decide) (fun c21 => ?_) (fun c21 => ?_)
      · refine e_iconst_n 0 dd_AB_isNameCharacter_28 (by decide) ?_
        exact e_zret dd_AB_isNameCharacter_29 rfl (by decide) (pP_of (bI_f (decide_eq_false (fun h9 => by
              rcases h9 with h9 | h9 | h9
              · exact absurd c3 (Int32.not_lt.mpr h9.1)
              · exact c15 h9
              · exact c21 h9))))
      · refine e_iconst_n 1 dd_AB_isNameCharacter_24 (by decide) ?_
        refine e_goto (tgt := 29) dd_AB_isNameCharacter_25 (by decide) ?_
        exact e_zret dd_AB_isNameCharacter_29 rfl (by decide) (pP_of (bI_t (decide_eq_true (Or.inr (Or.inr c21)))))
  · refine e_iload_n dd_AB_isNameCharacter_6 rfl ?_
    refine e_bipush_n 122 dd_AB_isNameCharacter_7 (by decide) ?_
    refine e_icmp_le (tgt := 24) dd_AB_isNameCharacter_9 (by decide) (fun c9 => ?_) (fun c9 => ?_)
    · refine e_iconst_n 1 dd_AB_isNameCharacter_24 (by decide) ?_
      refine e_goto (tgt := 29) dd_AB_isNameCharacter_25 (by decide) ?_
      exact e_zret dd_AB_isNameCharacter_29 rfl (by decide) (pP_of (bI_t (decide_eq_true (Or.inl ⟨Int32.not_lt.mp c3, c9⟩))))
    · refine e_iload_n dd_AB_isNameCharacter_12 rfl ?_
      refine e_bipush_n 46 dd_AB_isNameCharacter_13 (by decide) ?_
      refine e_icmp_eq (tgt := 24) dd_AB_isNameCharacter_15 (by decide) (fun c15 => ?_) (fun c15 => ?_)
      · refine e_iconst_n 1 dd_AB_isNameCharacter_24 (by decide) ?_
        refine e_goto (tgt := 29) dd_AB_isNameCharacter_25 (by decide) ?_
        exact e_zret dd_AB_isNameCharacter_29 rfl (by decide) (pP_of (bI_t (decide_eq_true (Or.inr (Or.inl c15)))))
      · refine e_iload_n dd_AB_isNameCharacter_18 rfl ?_
        refine e_bipush_n 47 dd_AB_isNameCharacter_19 (by decide) ?_
        refine e_icmp_ne (tgt := 28) dd_AB_isNameCharacter_21 (by decide) (fun c21 => ?_) (fun c21 => ?_)
        · refine e_iconst_n 0 dd_AB_isNameCharacter_28 (by decide) ?_
          exact e_zret dd_AB_isNameCharacter_29 rfl (by decide) (pP_of (bI_f (decide_eq_false (fun h9 => by
                rcases h9 with h9 | h9 | h9
                · exact c9 h9.2
                · exact c15 h9
                · exact c21 h9))))
        · refine e_iconst_n 1 dd_AB_isNameCharacter_24 (by decide) ?_
          refine e_goto (tgt := 29) dd_AB_isNameCharacter_25 (by decide) ?_
          exact e_zret dd_AB_isNameCharacter_29 rfl (by decide) (pP_of (bI_t (decide_eq_true (Or.inr (Or.inr c21)))))
set_option maxRecDepth 100000 in
set_option maxHeartbeats 4000000 in
theorem c_AB_isByte (x : Int32) : ab_E G mm_AB_isByte rr_AB_isByte 0 [(0, .int x)] [] w (pP (bI (isBI x)) w) := by
  refine e_iload_n dd_AB_isByte_0 rfl ?_
  refine e_if_lt (tgt := 15) dd_AB_isByte_1 (by decide) (fun c1 => ?_) (fun c1 => ?_)
  · refine e_iconst_n 0 dd_AB_isByte_15 (by decide) ?_
    exact e_zret dd_AB_isByte_16 rfl (by decide) (pP_of (bI_f (decide_eq_false (fun h9 => absurd c1 (Int32.not_lt.mpr h9.1)))))
  · refine e_iload_n dd_AB_isByte_4 rfl ?_
    refine e_sipush_n 255 dd_AB_isByte_5 (by decide) ?_
    refine e_icmp_gt (tgt := 15) dd_AB_isByte_8 (by decide) (fun c8 => ?_) (fun c8 => ?_)
    · refine e_iconst_n 0 dd_AB_isByte_15 (by decide) ?_
      exact e_zret dd_AB_isByte_16 rfl (by decide) (pP_of (bI_f (decide_eq_false (fun h9 => absurd c8 (Int32.not_lt.mpr h9.2)))))
    · refine e_iconst_n 1 dd_AB_isByte_11 (by decide) ?_
      refine e_goto (tgt := 16) dd_AB_isByte_12 (by decide) ?_
      exact e_zret dd_AB_isByte_16 rfl (by decide) (pP_of (bI_t (decide_eq_true ⟨Int32.not_lt.mp c1, Int32.not_lt.mp c8⟩)))
/-- the archive at 40: how many are open, where an opening ended, cursor, limit -/
def aO (w : ab_W) (o : Nat) (en : Int32) (cu li : Nat) : Prop := w.1 40 = some (.inr (4, [.ref 41, .ref 43, .int (nI o), .int en, .int (nI cu), .int (nI li)]))
/-- an opening has failed at pl -/
def aF (w : ab_W) (pl : Nat) : Prop := ∃ cu li, aO w 0 (nI pl) cu li
/-- only the archive's own cell, and open file i, have changed -/
def rX (w w2 : ab_W) (i : Nat) : Prop := w2.2 = w.2 ∧ ∀ j, j ≠ 40 → (j < 44 + 3 * i ∨ 47 + 3 * i ≤ j) → w2.1 j = w.1 j
theorem rX.tr {w w1 w2 : ab_W} {i : Nat} (h1 : rX w w1 i) (h2 : rX w1 w2 i) : rX w w2 i := ⟨h2.1.trans h1.1, fun j a b => (h2.2 j a b).trans (h1.2 j a b)⟩
theorem rX.rf {w : ab_W} {i : Nat} : rX w w i := ⟨rfl, fun _ _ _ => rfl⟩
theorem rS.X {w w2 : ab_W} (h : rS w w2 40 40) (i : Nat) : rX w w2 i := ⟨h.1, fun j h1 _ => h.2 j h1 h1⟩
theorem cR.X {w w2 : ab_W} {i r a cap : Nat} {xs : List Nat} (h : cR w r a cap xs) (hX : rX w w2 i) (h1 : r ≠ 40) (h2 : a ≠ 40) (h3 : r < 44 + 3 * i ∨ 47 + 3 * i ≤ r) (h4 : a < 44 + 3 * i ∨ 47 + 3 * i ≤ a) : cR w2 r a cap xs := h.keep (hX.2 r h1 h3) (hX.2 a h2 h4)
/-- what reading comes to: a failure with its code and place, or a value -/
abbrev Rd (α : Type) : Type := (Int32 × Nat) ⊕ α
def rdP {α : Type} (o : Rd α) (v : α → Nat) (F : Nat → ab_W → Prop) (S : α → ab_W → Prop) : Option Value → ab_W → Prop := match o with
  | .inl e => pI e.1 (F e.2)
  | .inr b => pI (nI (v b)) (S b)
theorem rdF_of {α : Type} {v : α → Nat} {F : Nat → ab_W → Prop} {S : α → ab_W → Prop} {code : Int32} {pl : Nat} {w : ab_W} (h : F pl w) : rdP (.inl (code, pl)) v F S (some (.int code)) w := ⟨rfl, h⟩
theorem rdS_of {α : Type} {v : α → Nat} {F : Nat → ab_W → Prop} {S : α → ab_W → Prop} {b : α} {w : ab_W} (h : S b w) : rdP (.inr b) v F S (some (.int (nI (v b)))) w := ⟨rfl, h⟩
def rB (im : List Nat) (li c : Nat) : Rd Nat := if c < li then .inr (im.getD c 0) else .inl (-3, li)
def rBt (im : List Nat) (li c lo hi : Nat) : Rd Nat := if c < li then (if im.getD c 0 < lo ∨ hi < im.getD c 0 then .inl (-4, c) else .inr (im.getD c 0)) else .inl (-3, li)
def rNum (im : List Nat) (li c : Nat) : Rd Nat := if c + 1 < li then .inr (im.getD c 0 * 256 + im.getD (c + 1) 0) else .inl (-3, li)
set_option maxRecDepth 100000 in
set_option maxHeartbeats 4000000 in
theorem c_Ar_stop (h40 : aO w o en cu li) (code x : Int32) : ab_E G mm_Ar_stop rr_Ar_stop 0 [(0, .ref 40), (1, .int code), (2, .int x)] [] w (pI code fun w2 => rS w w2 40 40 ∧ aO w2 0 x cu li) := by
  have h40 : w.1 40 = _ := h40
  refine e_aload_n dd_Ar_stop_0 rfl ?_
  refine e_iconst_n 0 dd_Ar_stop_1 (by decide) ?_
  refine e_putx (fs1 := [.ref 41, .ref 43, .int (nI 0), .int en, .int (nI cu), .int (nI li)]) dd_Ar_stop_2 kf_Ar_27 h40 (Nat.le_of_ble_eq_true rfl) rfl rfl rfl (fun w1 h2n h2v h2f => ?_)
  refine e_aload_n dd_Ar_stop_5 rfl ?_
  refine e_iload_n dd_Ar_stop_6 rfl ?_
  refine e_putx (fs1 := [.ref 41, .ref 43, .int (nI 0), .int x, .int (nI cu), .int (nI li)]) dd_Ar_stop_7 kf_Ar_31 h2v (Nat.le_of_ble_eq_true rfl) rfl rfl rfl (fun w3 h4n h4v h4f => ?_)
  refine e_iload_n dd_Ar_stop_10 rfl ?_
  exact e_iret dd_Ar_stop_11 rfl (pI_of rfl ⟨⟨h4n.trans h2n, fun i h8 h9 => (h4f i h8).trans (h2f i h8)⟩, h4v⟩)
set_option maxRecDepth 100000 in
set_option maxHeartbeats 4000000 in
theorem c_Ar_stopF (h40 : aO w o en cu li) (code : Int32) {pl : Nat} : ab_E G mm_Ar_stop rr_Ar_stop 0 [(0, .ref 40), (1, .int code), (2, .int (nI pl))] [] w (pI code fun w2 => rS w w2 40 40 ∧ aF w2 pl) :=
  (c_Ar_stop h40 code (nI pl)).mono (fun v w2 h => ⟨h.1, h.2.1, cu, li, h.2.2⟩)
set_option maxRecDepth 100000 in
set_option maxHeartbeats 4000000 in
theorem c_Ar_start (h40 : aO w o en cu li) {c l : Nat} : ab_E G mm_Ar_start rr_Ar_start 0 [(0, .ref 40), (1, .int (nI c)), (2, .int (nI l))] [] w (pV fun w2 => rS w w2 40 40 ∧ aO w2 0 (-1) c l) := by
  have h40 : w.1 40 = _ := h40
  refine e_aload_n dd_Ar_start_0 rfl ?_
  refine e_iconst_n 0 dd_Ar_start_1 (by decide) ?_
  refine e_putx (fs1 := [.ref 41, .ref 43, .int (nI 0), .int en, .int (nI cu), .int (nI li)]) dd_Ar_start_2 kf_Ar_27 h40 (Nat.le_of_ble_eq_true rfl) rfl rfl rfl (fun w1 h2n h2v h2f => ?_)
  refine e_aload_n dd_Ar_start_5 rfl ?_
  refine e_iconst (v := -1) dd_Ar_start_6 (by decide) ?_
  refine e_putx (fs1 := [.ref 41, .ref 43, .int (nI 0), .int (-1), .int (nI cu), .int (nI li)]) dd_Ar_start_7 kf_Ar_31 h2v (Nat.le_of_ble_eq_true rfl) rfl rfl rfl (fun w3 h4n h4v h4f => ?_)
  refine e_aload_n dd_Ar_start_10 rfl ?_
  refine e_iload_n dd_Ar_start_11 rfl ?_
  refine e_putx (fs1 := [.ref 41, .ref 43, .int (nI 0), .int (-1), .int (nI c), .int (nI li)]) dd_Ar_start_12 kf_Ar_41 h4v (Nat.le_of_ble_eq_true rfl) rfl rfl rfl (fun w5 h6n h6v h6f => ?_)
  refine e_aload_n dd_Ar_start_15 rfl ?_
  refine e_iload_n dd_Ar_start_16 rfl ?_
  refine e_putx (fs1 := [.ref 41, .ref 43, .int (nI 0), .int (-1), .int (nI c), .int (nI l)]) dd_Ar_start_17 kf_Ar_44 h6v (Nat.le_of_ble_eq_true rfl) rfl rfl rfl (fun w7 h8n h8v h8f => ?_)
  exact e_vret dd_Ar_start_20 rfl (pV_of ⟨⟨h8n.trans (h6n.trans (h4n.trans h2n)), fun i h8 h9 => (h8f i h8).trans ((h6f i h8).trans ((h4f i h8).trans (h2f i h8)))⟩, h8v⟩)
set_option maxRecDepth 100000 in
set_option maxHeartbeats 4000000 in
theorem c_Ar_close (h40 : aO w o en cu li) : ab_E G mm_Ar_close rr_Ar_close 0 [(0, .ref 40)] [] w (pV fun w2 => rS w w2 40 40 ∧ aO w2 0 en cu li) := by
  have h40 : w.1 40 = _ := h40
  refine e_aload_n dd_Ar_close_0 rfl ?_
  refine e_iconst_n 0 dd_Ar_close_1 (by decide) ?_
  refine e_putx (fs1 := [.ref 41, .ref 43, .int (nI 0), .int en, .int (nI cu), .int (nI li)]) dd_Ar_close_2 kf_Ar_27 h40 (Nat.le_of_ble_eq_true rfl) rfl rfl rfl (fun w1 h2n h2v h2f => ?_)
  exact e_vret dd_Ar_close_5 rfl (pV_of ⟨⟨h2n, fun i h8 h9 => h2f i h8⟩, h2v⟩)
set_option maxRecDepth 100000 in
set_option maxHeartbeats 4000000 in
theorem c_Ar_has (h40 : aO w o en cu li) (ho : o < 2 ^ 31) (x : Int32) : ab_E G mm_Ar_has rr_Ar_has 0 [(0, .ref 40), (1, .int x)] [] w (pP (bI (decide (0 ≤ x ∧ x < nI o))) w) := by
  have h40 : w.1 40 = _ := h40
  refine e_iload_n dd_Ar_has_0 rfl ?_
  refine e_if_lt (tgt := 16) dd_Ar_has_1 (by decide) (fun c1 => ?_) (fun c1 => ?_)
  · refine e_iconst_n 0 dd_Ar_has_16 (by decide) ?_
    exact e_zret dd_Ar_has_17 rfl (by decide) (pP_of (bI_f (decide_eq_false (fun h9 => absurd c1 (Int32.not_lt.mpr h9.1)))))
  · refine e_iload_n dd_Ar_has_4 rfl ?_
    refine e_aload_n dd_Ar_has_5 rfl ?_
    refine e_get dd_Ar_has_6 kf_Ar_27 h40 rfl ?_
    refine e_icmp_ge (tgt := 16) dd_Ar_has_9 (by decide) (fun c9 => ?_) (fun c9 => ?_)
    · refine e_iconst_n 0 dd_Ar_has_16 (by decide) ?_
      exact e_zret dd_Ar_has_17 rfl (by decide) (pP_of (bI_f (decide_eq_false (fun h9 => absurd h9.2 (Int32.not_lt.mpr c9)))))
    · refine e_iconst_n 1 dd_Ar_has_12 (by decide) ?_
      refine e_goto (tgt := 17) dd_Ar_has_13 (by decide) ?_
      exact e_zret dd_Ar_has_17 rfl (by decide) (pP_of (bI_t (decide_eq_true ⟨Int32.not_lt.mp c1, Int32.not_le.mp c9⟩)))
set_option maxRecDepth 100000 in
set_option maxHeartbeats 4000000 in
theorem c_Ar_readByte (h40 : aO w o en cu li) (him : cR w 41 42 600 im) (hli : li ≤ im.length) (hcu : cu < 100000) : ab_E G mm_Ar_readByte rr_Ar_readByte 0 [(0, .ref 40)] [] w (rdP (rB im li cu) id (fun pl w2 => rS w w2 40 40 ∧ aF w2 pl) (fun _ w2 => rS w w2 40 40 ∧ aO w2 o en (cu + 1) li)) := by
  have h40' := h40
  have h40 : w.1 40 = _ := h40
  have hr := him.obj
  have hlt := him.lt
  unfold rB
  refine e_aload_n dd_Ar_readByte_0 rfl ?_
  refine e_get dd_Ar_readByte_1 kf_Ar_41 h40 rfl ?_
  refine e_aload_n dd_Ar_readByte_4 rfl ?_
  refine e_get dd_Ar_readByte_5 kf_Ar_44 h40 rfl ?_
  refine e_icmp_lt_n (tgt := 22) dd_Ar_readByte_8 (by decide) (by omega) (by omega) (fun c8 => ?_) (fun c8 => ?_)
  · rw [if_pos c8]
    refine e_aload_n dd_Ar_readByte_22 rfl ?_
    refine e_get dd_Ar_readByte_23 kf_Ar_14 h40 rfl ?_
    refine e_aload_n dd_Ar_readByte_26 rfl ?_
    refine e_get dd_Ar_readByte_27 kf_Ar_41 h40 rfl ?_
    refine e_callVp (d1 := rr_Row_at) (As := [.int (nI cu)]) (st := []) dd_Ar_readByte_30 km_Ar_94 hr rfl (by decide) rfl (Nat.le_of_ble_eq_true rfl) (Nat.le_of_ble_eq_true rfl) rfl rfl (c_Row_ati him (by omega)) ?_
    refine e_istore_n (lv1 := [(0, .ref 40), (1, .int (nI (im.getD cu 0)))]) dd_Ar_readByte_33 (by decide) rfl ?_
    refine e_aload_n dd_Ar_readByte_34 rfl ?_
    refine e_dup dd_Ar_readByte_35 rfl ?_
    refine e_get dd_Ar_readByte_36 kf_Ar_41 h40 rfl ?_
    refine e_iconst_n 1 dd_Ar_readByte_39 (by decide) ?_
    refine e_iadd_n dd_Ar_readByte_40 ?_
    refine e_putx (fs1 := [.ref 41, .ref 43, .int (nI o), .int en, .int (nI (cu + 1)), .int (nI li)]) dd_Ar_readByte_41 kf_Ar_41 h40 (Nat.le_of_ble_eq_true rfl) rfl rfl rfl (fun w1 h2n h2v h2f => ?_)
    refine e_iload_n dd_Ar_readByte_44 rfl ?_
    exact e_iret dd_Ar_readByte_45 rfl (rdS_of ⟨⟨h2n, fun i h8 h9 => h2f i h8⟩, h2v⟩)
  · rw [if_neg (by omega)]
    refine e_aload_n dd_Ar_readByte_11 rfl ?_
    refine e_bipush (v := -3) dd_Ar_readByte_12 (by decide) ?_
    refine e_aload_n dd_Ar_readByte_14 rfl ?_
    refine e_get dd_Ar_readByte_15 kf_Ar_44 h40 rfl ?_
    refine e_callVi (d1 := rr_Ar_stop) (As := [.int (-3), .int (nI li)]) (st := []) dd_Ar_readByte_18 km_Ar_58 h40 rfl (by decide) rfl (Nat.le_of_ble_eq_true rfl) (Nat.le_of_ble_eq_true rfl) rfl rfl (c_Ar_stopF h40' (-3)) (fun w1 k1 => ?_)
    exact e_iret dd_Ar_readByte_21 rfl (rdF_of k1)
theorem rdP_F {α : Type} {o : Rd α} {v : α → Nat} {F : Nat → ab_W → Prop} {S : α → ab_W → Prop} {e : Int32 × Nat} (h : o = .inl e) : rdP o v F S = pI e.1 (F e.2) := by rw [h]; rfl
theorem rdP_S {α : Type} {o : Rd α} {v : α → Nat} {F : Nat → ab_W → Prop} {S : α → ab_W → Prop} {b : α} (h : o = .inr b) : rdP o v F S = pI (nI (v b)) (S b) := by rw [h]; rfl
theorem rB_S {im : List Nat} {li c b : Nat} (h : rB im li c = .inr b) : c < li ∧ b = im.getD c 0 := by
  unfold rB at h
  split at h
  · cases h
    exact ⟨by assumption, rfl⟩
  · cases h
theorem rB_F {im : List Nat} {li c : Nat} {e : Int32 × Nat} (h : rB im li c = .inl e) : li ≤ c ∧ e = (-3, li) := by
  unfold rB at h
  split at h
  · cases h
  · cases h
    exact ⟨by omega, rfl⟩
set_option maxRecDepth 100000 in
set_option maxHeartbeats 4000000 in
theorem c_Ar_readBetween (h40 : aO w o en cu li) (him : cR w 41 42 600 im) (hli : li ≤ im.length) (hcu : cu < 100000) {lo hi : Nat} (hlo : lo < 2 ^ 31) (hhi : hi < 2 ^ 31) : ab_E G mm_Ar_readBetween rr_Ar_readBetween 0 [(0, .ref 40), (1, .int (nI lo)), (2, .int (nI hi))] [] w (rdP (rBt im li cu lo hi) id (fun pl w2 => rS w w2 40 40 ∧ aF w2 pl) (fun _ w2 => rS w w2 40 40 ∧ aO w2 o en (cu + 1) li)) := by
  have hby := him.2.2.2.2.1
  have hlt := him.lt
  have h40o : w.1 40 = _ := h40
  have k0 := c_Ar_readByte (G := G) h40 him hli hcu
  unfold rBt
  unfold rB at k0
  by_cases c : cu < li
  · rw [if_pos c] at k0 ⊢
    have g1 := getD_lt hby (j := cu) (by omega)
    refine e_aload_n dd_Ar_readBetween_0 rfl ?_
    refine e_callVi (d1 := rr_Ar_readByte) (As := []) (st := []) dd_Ar_readBetween_1 km_Ar_54 h40o rfl (by decide) rfl (Nat.le_of_ble_eq_true rfl) (Nat.le_of_ble_eq_true rfl) rfl rfl (k0) (fun w1 k1 => ?_)
    generalize im.getD cu 0 = b at g1 ⊢
    have h41 : w1.1 40 = _ := k1.2
    refine e_istore_n (lv1 := [(0, .ref 40), (1, .int (nI lo)), (2, .int (nI hi)), (3, .int (nI b))]) dd_Ar_readBetween_4 (by decide) rfl ?_
    refine e_iload_n dd_Ar_readBetween_5 rfl ?_
    refine e_if_lt_n (tgt := 32) dd_Ar_readBetween_6 (by decide) (by omega) ?_
    refine e_iload_n dd_Ar_readBetween_9 rfl ?_
    refine e_iload_n dd_Ar_readBetween_10 rfl ?_
    refine e_icmp_lt_n (tgt := 19) dd_Ar_readBetween_11 (by decide) (by omega) (by omega) (fun c11 => ?_) (fun c11 => ?_)
    · rw [if_pos (Or.inl c11)]
      refine e_aload_n dd_Ar_readBetween_19 rfl ?_
      refine e_bipush (v := -4) dd_Ar_readBetween_20 (by decide) ?_
      refine e_aload_n dd_Ar_readBetween_22 rfl ?_
      refine e_get dd_Ar_readBetween_23 kf_Ar_41 h41 rfl ?_
      refine e_iconst_n 1 dd_Ar_readBetween_26 (by decide) ?_
      refine e_isub_n dd_Ar_readBetween_27 (by omega) ?_
      refine e_top (y := nI cu) (by congr 1) ?_
      refine e_callVi (d1 := rr_Ar_stop) (As := [.int (-4), .int (nI cu)]) (st := []) dd_Ar_readBetween_28 km_Ar_58 h41 rfl (by decide) rfl (Nat.le_of_ble_eq_true rfl) (Nat.le_of_ble_eq_true rfl) rfl rfl (c_Ar_stopF k1.2 (-4)) (fun w2 k2 => ?_)
      exact e_iret dd_Ar_readBetween_31 rfl (rdF_of ⟨k1.1.tr k2.1, k2.2⟩)
    · refine e_iload_n dd_Ar_readBetween_14 rfl ?_
      refine e_iload_n dd_Ar_readBetween_15 rfl ?_
      refine e_icmp_le_n (tgt := 32) dd_Ar_readBetween_16 (by decide) (by omega) (by omega) (fun c16 => ?_) (fun c16 => ?_)
      · rw [if_neg (by omega)]
        refine e_iload_n dd_Ar_readBetween_32 rfl ?_
        exact e_iret dd_Ar_readBetween_33 rfl (rdS_of k1)
      · rw [if_pos (Or.inr c16)]
        refine e_aload_n dd_Ar_readBetween_19 rfl ?_
        refine e_bipush (v := -4) dd_Ar_readBetween_20 (by decide) ?_
        refine e_aload_n dd_Ar_readBetween_22 rfl ?_
        refine e_get dd_Ar_readBetween_23 kf_Ar_41 h41 rfl ?_
        refine e_iconst_n 1 dd_Ar_readBetween_26 (by decide) ?_
        refine e_isub_n dd_Ar_readBetween_27 (by omega) ?_
        refine e_top (y := nI cu) (by congr 1) ?_
        refine e_callVi (d1 := rr_Ar_stop) (As := [.int (-4), .int (nI cu)]) (st := []) dd_Ar_readBetween_28 km_Ar_58 h41 rfl (by decide) rfl (Nat.le_of_ble_eq_true rfl) (Nat.le_of_ble_eq_true rfl) rfl rfl (c_Ar_stopF k1.2 (-4)) (fun w2 k2 => ?_)
        exact e_iret dd_Ar_readBetween_31 rfl (rdF_of ⟨k1.1.tr k2.1, k2.2⟩)
  · rw [if_neg c] at k0 ⊢
    refine e_aload_n dd_Ar_readBetween_0 rfl ?_
    refine e_callVi (d1 := rr_Ar_readByte) (As := []) (st := []) dd_Ar_readBetween_1 km_Ar_54 h40o rfl (by decide) rfl (Nat.le_of_ble_eq_true rfl) (Nat.le_of_ble_eq_true rfl) rfl rfl (k0) (fun w1 k1 => ?_)
    refine e_istore_n (lv1 := [(0, .ref 40), (1, .int (nI lo)), (2, .int (nI hi)), (3, .int (-3))]) dd_Ar_readBetween_4 (by decide) rfl ?_
    refine e_iload_n dd_Ar_readBetween_5 rfl ?_
    refine e_if_lt (tgt := 32) dd_Ar_readBetween_6 (by decide) (fun _ => ?_) (fun h9 => absurd h9 (by decide))
    refine e_iload_n dd_Ar_readBetween_32 rfl ?_
    exact e_iret dd_Ar_readBetween_33 rfl (rdF_of k1)
set_option maxRecDepth 100000 in
set_option maxHeartbeats 4000000 in
theorem c_Ar_readNumber (h40 : aO w o en cu li) (him : cR w 41 42 600 im) (hli : li ≤ im.length) (hcu : cu < 90000) : ab_E G mm_Ar_readNumber rr_Ar_readNumber 0 [(0, .ref 40)] [] w (rdP (rNum im li cu) id (fun pl w2 => rS w w2 40 40 ∧ aF w2 pl) (fun _ w2 => rS w w2 40 40 ∧ aO w2 o en (cu + 2) li)) := by
  have hby := him.2.2.2.2.1
  have hlt := him.lt
  have h40o : w.1 40 = _ := h40
  have k0 := c_Ar_readByte (G := G) h40 him hli (by omega)
  unfold rNum
  unfold rB at k0
  by_cases c : cu < li
  · rw [if_pos c] at k0
    have g1 := getD_lt hby (j := cu) (by omega)
    refine e_aload_n dd_Ar_readNumber_0 rfl ?_
    refine e_callVi (d1 := rr_Ar_readByte) (As := []) (st := []) dd_Ar_readNumber_1 km_Ar_54 h40o rfl (by decide) rfl (Nat.le_of_ble_eq_true rfl) (Nat.le_of_ble_eq_true rfl) rfl rfl (k0) (fun w1 k1 => ?_)
    have h41 : w1.1 40 = _ := k1.2
    have him1 := him.fr k1.1 (by decide) (by decide) (by decide) (by decide)
    have k2 := c_Ar_readByte (G := G) k1.2 him1 hli (by omega)
    unfold rB at k2
    by_cases c2 : cu + 1 < li
    · rw [if_pos c2] at k2 ⊢
      have g2 := getD_lt hby (j := cu + 1) (by omega)
      refine e_istore_n (lv1 := [(0, .ref 40), (1, .int (nI (im.getD cu 0)))]) dd_Ar_readNumber_4 (by decide) rfl ?_
      refine e_iload_n dd_Ar_readNumber_5 rfl ?_
      refine e_if_ge_n (tgt := 11) dd_Ar_readNumber_6 (by decide) (by omega) ?_
      refine e_aload_n dd_Ar_readNumber_11 rfl ?_
      refine e_callVi (d1 := rr_Ar_readByte) (As := []) (st := []) dd_Ar_readNumber_12 km_Ar_54 h41 rfl (by decide) rfl (Nat.le_of_ble_eq_true rfl) (Nat.le_of_ble_eq_true rfl) rfl rfl (k2) (fun w2 k3 => ?_)
      refine e_istore_n (lv1 := [(0, .ref 40), (1, .int (nI (im.getD cu 0))), (2, .int (nI (im.getD (cu + 1) 0)))]) dd_Ar_readNumber_15 (by decide) rfl ?_
      refine e_iload_n dd_Ar_readNumber_16 rfl ?_
      refine e_if_ge_n (tgt := 24) dd_Ar_readNumber_17 (by decide) (by omega) ?_
      refine e_iload_n dd_Ar_readNumber_24 rfl ?_
      refine e_sipush_n 256 dd_Ar_readNumber_25 (by decide) ?_
      refine e_imul_n dd_Ar_readNumber_28 ?_
      refine e_iload_n dd_Ar_readNumber_29 rfl ?_
      refine e_iadd_n dd_Ar_readNumber_30 ?_
      exact e_iret dd_Ar_readNumber_31 rfl (rdS_of ⟨k1.1.tr k3.1, k3.2⟩)
    · rw [if_neg c2] at k2 ⊢
      refine e_istore_n (lv1 := [(0, .ref 40), (1, .int (nI (im.getD cu 0)))]) dd_Ar_readNumber_4 (by decide) rfl ?_
      refine e_iload_n dd_Ar_readNumber_5 rfl ?_
      refine e_if_ge_n (tgt := 11) dd_Ar_readNumber_6 (by decide) (by omega) ?_
      refine e_aload_n dd_Ar_readNumber_11 rfl ?_
      refine e_callVi (d1 := rr_Ar_readByte) (As := []) (st := []) dd_Ar_readNumber_12 km_Ar_54 h41 rfl (by decide) rfl (Nat.le_of_ble_eq_true rfl) (Nat.le_of_ble_eq_true rfl) rfl rfl (k2) (fun w2 k3 => ?_)
      refine e_istore_n (lv1 := [(0, .ref 40), (1, .int (nI (im.getD cu 0))), (2, .int (-3))]) dd_Ar_readNumber_15 (by decide) rfl ?_
      refine e_iload_n dd_Ar_readNumber_16 rfl ?_
      refine e_if_ge (tgt := 24) dd_Ar_readNumber_17 (by decide) (fun h9 => absurd h9 (by decide)) (fun _ => ?_)
      refine e_iload_n dd_Ar_readNumber_20 rfl ?_
      refine e_goto (tgt := 31) dd_Ar_readNumber_21 (by decide) ?_
      exact e_iret dd_Ar_readNumber_31 rfl (rdF_of ⟨k1.1.tr k3.1, k3.2⟩)
  · rw [if_neg c] at k0
    rw [if_neg (by omega)]
    refine e_aload_n dd_Ar_readNumber_0 rfl ?_
    refine e_callVi (d1 := rr_Ar_readByte) (As := []) (st := []) dd_Ar_readNumber_1 km_Ar_54 h40o rfl (by decide) rfl (Nat.le_of_ble_eq_true rfl) (Nat.le_of_ble_eq_true rfl) rfl rfl (k0) (fun w1 k1 => ?_)
    refine e_istore_n (lv1 := [(0, .ref 40), (1, .int (-3))]) dd_Ar_readNumber_4 (by decide) rfl ?_
    refine e_iload_n dd_Ar_readNumber_5 rfl ?_
    refine e_if_ge (tgt := 11) dd_Ar_readNumber_6 (by decide) (fun h9 => absurd h9 (by decide)) (fun _ => ?_)
    refine e_iload_n dd_Ar_readNumber_9 rfl ?_
    exact e_iret dd_Ar_readNumber_10 rfl (rdF_of k1)
end AR
