/-! ArchiveBench$Row: a row of bytes xs at r, its cells at a, with room cap. -/
def cR (w : ab_W) (r a cap : Nat) (xs : List Nat) : Prop := w.1 r = some (.inr (1, [.ref a, .int (nI xs.length)])) ∧ xs.length ≤ cap ∧ cap < 100000 ∧ r ≠ a ∧ (∀ x ∈ xs, x < 256) ∧ ∃ f, w.1 a = some (.inl (0, cap, .inl f)) ∧ ∀ j, j < xs.length → f j = nI (xs.getD j 0)
/-- what a row's method leaves alone -/
def rS (w w2 : ab_W) (r a : Nat) : Prop := w2.2 = w.2 ∧ ∀ i, i ≠ r → i ≠ a → w2.1 i = w.1 i
theorem rS.rf {w : ab_W} {r a : Nat} : rS w w r a := ⟨rfl, fun _ _ _ => rfl⟩
theorem rS.tr {w w1 w2 : ab_W} {r a : Nat} (h1 : rS w w1 r a) (h2 : rS w1 w2 r a) : rS w w2 r a := ⟨h2.1.trans h1.1, fun i hr ha => (h2.2 i hr ha).trans (h1.2 i hr ha)⟩
theorem cR.keep {w w2 : ab_W} {r a cap : Nat} {xs : List Nat} (h : cR w r a cap xs) (hr : w2.1 r = w.1 r) (ha : w2.1 a = w.1 a) : cR w2 r a cap xs := by
  obtain ⟨h1, h2, h3, h4, h5, f, h6, h7⟩ := h
  exact ⟨hr.trans h1, h2, h3, h4, h5, f, ha.trans h6, h7⟩
/-- the byte at a place, or -1 -/
def rb (xs : List Nat) (j : Nat) : Int32 := if j < xs.length then nI (xs.getD j 0) else -1
def rbI (xs : List Nat) (i : Int32) : Int32 := if i < 0 then -1 else rb xs i.toNatClampNeg
theorem rb_in {xs : List Nat} {j : Nat} (h : j < xs.length) : rb xs j = nI (xs.getD j 0) := if_pos h
theorem rb_out {xs : List Nat} {j : Nat} (h : xs.length ≤ j) : rb xs j = -1 := if_neg (by omega)
theorem rbI_n {xs : List Nat} {j : Nat} (h : j < 2 ^ 31) : rbI xs (nI j) = rb xs j := by
  rw [rbI, if_neg (nI_pos h), nI_clamp h]
theorem getD_lt {xs : List Nat} {j : Nat} {b : Nat} (hb : ∀ x ∈ xs, x < b) (h : j < xs.length) : xs.getD j 0 < b := by
  rw [List.getD_eq_getElem?_getD, List.getElem?_eq_getElem h]
  exact hb _ (List.getElem_mem h)
theorem pP_of {x y : Int32} {w : ab_W} (e : y = x) : pP x w (some (.int y)) w := ⟨by rw [e], rfl⟩
theorem pI_of {x y : Int32} {w : ab_W} {Q : ab_W → Prop} (e : y = x) (h : Q w) : pI x Q (some (.int y)) w := ⟨by rw [e], h⟩
theorem pV_of {w : ab_W} {Q : ab_W → Prop} (h : Q w) : pV Q none w := ⟨rfl, h⟩
theorem bI_t {b : Bool} (h : b = true) : nI 1 = bI b := by rw [h]; rfl
theorem bI_f {b : Bool} (h : b = false) : nI 0 = bI b := by rw [h]; rfl
section ROW
variable {G : ab_G} {w : ab_W} {r a cap : Nat} {xs : List Nat}
theorem c_Row_at (h : cR w r a cap xs) (i : Int32) : ab_E G mm_Row_at rr_Row_at 0 [(0, .ref r), (1, .int i)] [] w (pP (rbI xs i) w) := by
  obtain ⟨hr, hle, hcap, hne, hby, f, ha, hf⟩ := h
  by_cases hi : i < 0
  · refine e_iload_n dd_Row_at_0 rfl ?_
    refine e_if_lt (tgt := 21) dd_Row_at_1 (by decide) (fun _ => ?_) (fun h9 => absurd h9 (fun h8 => h8 hi))
    refine e_iconst (v := -1) dd_Row_at_21 (by decide) ?_
    exact e_iret dd_Row_at_22 rfl (pP_of (by rw [rbI, if_pos hi]))
  · obtain ⟨j, hj, rfl⟩ := nI_of hi
    refine e_iload_n dd_Row_at_0 rfl ?_
    refine e_if_lt_n (tgt := 21) dd_Row_at_1 (by decide) (by omega) ?_
    refine e_iload_n dd_Row_at_4 rfl ?_
    refine e_aload_n dd_Row_at_5 rfl ?_
    refine e_get dd_Row_at_6 kf_Row_15 hr rfl ?_
    refine e_icmp_ge_n (tgt := 21) dd_Row_at_9 (by decide) (by omega) (by omega) (fun c9 => ?_) (fun c9 => ?_)
    · refine e_iconst (v := -1) dd_Row_at_21 (by decide) ?_
      exact e_iret dd_Row_at_22 rfl (pP_of (by rw [rbI_n hj, rb_out c9]))
    · refine e_aload_n dd_Row_at_12 rfl ?_
      refine e_get dd_Row_at_13 kf_Row_9 hr rfl ?_
      refine e_iload_n dd_Row_at_16 rfl ?_
      refine e_iald dd_Row_at_17 ha rfl rfl (by omega) (by omega) ?_
      refine e_top (y := rbI xs (nI j)) (by rw [rbI_n hj, rb_in c9]; exact hf j c9) ?_
      refine e_goto (tgt := 22) dd_Row_at_18 (by decide) ?_
      exact e_iret dd_Row_at_22 rfl (pP_of rfl)
theorem c_Row_atn (h : cR w r a cap xs) {j : Nat} (hj : j < 2 ^ 31) : ab_E G mm_Row_at rr_Row_at 0 [(0, .ref r), (1, .int (nI j))] [] w (pP (rb xs j) w) := by
  rw [← rbI_n hj]
  exact c_Row_at h (nI j)
theorem c_Row_ati (h : cR w r a cap xs) {j : Nat} (hj : j < xs.length) : ab_E G mm_Row_at rr_Row_at 0 [(0, .ref r), (1, .int (nI j))] [] w (pP (nI (xs.getD j 0)) w) := by
  have h2 := h.2.1
  have h3 := h.2.2.1
  rw [← rb_in hj]
  exact c_Row_atn h (by omega)
theorem cR.obj (h : cR w r a cap xs) : w.1 r = some (.inr (1, [.ref a, .int (nI xs.length)])) := h.1
theorem cR.lt (h : cR w r a cap xs) : xs.length < 100000 := by
  have h2 := h.2.1
  have h3 := h.2.2.1
  omega
theorem c_Row_numberAt (h : cR w r a cap xs) {j : Nat} (hj : j + 1 < xs.length) : ab_E G mm_Row_numberAt rr_Row_numberAt 0 [(0, .ref r), (1, .int (nI j))] [] w (pP (nI (xs.getD j 0 * 256 + xs.getD (j + 1) 0)) w) := by
  have hr := h.obj
  refine e_aload_n dd_Row_numberAt_0 rfl ?_
  refine e_iload_n dd_Row_numberAt_1 rfl ?_
  refine e_callVp (d1 := rr_Row_at) (As := [.int (nI j)]) (st := []) dd_Row_numberAt_2 km_Row_19 hr rfl (by decide) rfl (Nat.le_of_ble_eq_true rfl) (Nat.le_of_ble_eq_true rfl) rfl rfl (c_Row_ati h (by omega)) ?_
  refine e_sipush_n 256 dd_Row_numberAt_5 (by decide) ?_
  refine e_imul_n dd_Row_numberAt_8 ?_
  refine e_aload_n dd_Row_numberAt_9 rfl ?_
  refine e_iload_n dd_Row_numberAt_10 rfl ?_
  refine e_iconst_n 1 dd_Row_numberAt_11 (by decide) ?_
  refine e_iadd_n dd_Row_numberAt_12 ?_
  refine e_callVp (d1 := rr_Row_at) (As := [.int (nI (j + 1))]) (st := [.int (nI ((xs.getD j 0) * 256))]) dd_Row_numberAt_13 km_Row_19 hr rfl (by decide) rfl (Nat.le_of_ble_eq_true rfl) (Nat.le_of_ble_eq_true rfl) rfl rfl (c_Row_ati h hj) ?_
  refine e_iadd_n dd_Row_numberAt_16 ?_
  exact e_iret dd_Row_numberAt_17 rfl (pP_of rfl)
theorem c_Row_set (h : cR w r a cap xs) {j b : Nat} (hj : j < xs.length) (hb : b < 256) : ab_E G mm_Row_set rr_Row_set 0 [(0, .ref r), (1, .int (nI j)), (2, .int (nI b))] [] w (pV fun w2 => rS w w2 r a ∧ cR w2 r a cap (xs.set j b)) := by
  obtain ⟨hr, hle, hcap, hne, hby, f, ha, hf⟩ := h
  refine e_iload_n dd_Row_set_0 rfl ?_
  refine e_if_lt_n (tgt := 19) dd_Row_set_1 (by decide) (by omega) ?_
  refine e_iload_n dd_Row_set_4 rfl ?_
  refine e_aload_n dd_Row_set_5 rfl ?_
  refine e_get dd_Row_set_6 kf_Row_15 hr rfl ?_
  refine e_icmp_ge_n (tgt := 19) dd_Row_set_9 (by decide) (by omega) (by omega) (fun h9 => absurd h9 (by omega)) (fun _ => ?_)
  refine e_aload_n dd_Row_set_12 rfl ?_
  refine e_get dd_Row_set_13 kf_Row_9 hr rfl ?_
  refine e_iload_n dd_Row_set_16 rfl ?_
  refine e_iload_n dd_Row_set_17 rfl ?_
  refine e_iastx dd_Row_set_18 ha rfl rfl (by omega) (by omega) (fun w1 h2n h2v h2f => ?_)
  refine e_vret dd_Row_set_19 rfl (pV_of ⟨⟨h2n, fun i h8 h9 => h2f i h9⟩, ?_⟩)
  refine ⟨by rw [List.length_set]; exact (h2f _ hne).trans hr, by rw [List.length_set]; exact hle, hcap, hne, fun x hx => ?_, _, h2v, fun k hk => ?_⟩
  · rcases List.mem_or_eq_of_mem_set hx with h8 | h8
    · exact hby x h8
    · rw [h8]; exact hb
  · rw [List.length_set] at hk
    by_cases e : k = j
    · subst e
      simp [upd, hk, List.getD_eq_getElem?_getD]
    · rw [pk_un e, hf k hk]
      simp [List.getD_eq_getElem?_getD, List.getElem?_set, Ne.symm e]
theorem c_Row_cutTo (h : cR w r a cap xs) {k : Nat} (hk : k < 2 ^ 31) : ab_E G mm_Row_cutTo rr_Row_cutTo 0 [(0, .ref r), (1, .int (nI k))] [] w (pV fun w2 => rS w w2 r a ∧ cR w2 r a cap (xs.take k)) := by
  have h0 := h
  obtain ⟨hr, hle, hcap, hne, hby, f, ha, hf⟩ := h
  refine e_iload_n dd_Row_cutTo_0 rfl ?_
  refine e_if_lt_n (tgt := 17) dd_Row_cutTo_1 (by decide) (by omega) ?_
  refine e_iload_n dd_Row_cutTo_4 rfl ?_
  refine e_aload_n dd_Row_cutTo_5 rfl ?_
  refine e_get dd_Row_cutTo_6 kf_Row_15 hr rfl ?_
  refine e_icmp_ge_n (tgt := 17) dd_Row_cutTo_9 (by decide) (by omega) (by omega) (fun c9 => ?_) (fun c9 => ?_)
  · exact e_vret dd_Row_cutTo_17 rfl (pV_of ⟨rS.rf, by rw [List.take_of_length_le c9]; exact h0⟩)
  · refine e_aload_n dd_Row_cutTo_12 rfl ?_
    refine e_iload_n dd_Row_cutTo_13 rfl ?_
    refine e_putx (fs1 := [.ref a, .int (nI k)]) dd_Row_cutTo_14 kf_Row_15 hr (Nat.le_of_ble_eq_true rfl) rfl rfl rfl (fun w1 h2n h2v h2f => ?_)
    have e1 : (xs.take k).length = k := by rw [List.length_take]; omega
    refine e_vret dd_Row_cutTo_17 rfl (pV_of ⟨⟨h2n, fun i h8 h9 => h2f i h8⟩, ?_⟩)
    refine ⟨by rw [e1]; exact h2v, by omega, hcap, hne, fun x hx => hby x (List.mem_of_mem_take hx), f, (h2f _ hne.symm).trans ha, fun j hj => ?_⟩
    rw [e1] at hj
    rw [hf j (by omega)]
    simp [List.getD_eq_getElem?_getD, List.getElem?_take, hj]
theorem getD_snoc {xs : List Nat} {b k : Nat} : (xs ++ [b]).getD k 0 = if k = xs.length then b else xs.getD k 0 := by
  rw [List.getD_eq_getElem?_getD, List.getD_eq_getElem?_getD]
  by_cases h : k = xs.length
  · subst h; simp
  · rw [if_neg h]
    by_cases h2 : k < xs.length
    · rw [List.getElem?_append_left h2]
    · rw [List.getElem?_eq_none (by simp; omega), List.getElem?_eq_none (by omega)]
/-- one byte more -/
theorem cR.snoc {w2 : ab_W} {b : Nat} {f : Nat → Int32} (h : cR w r a cap xs) (hb : b < 256) (hl : xs.length < cap) (hr2 : w2.1 r = some (.inr (1, [.ref a, .int (nI (xs.length + 1))]))) (ha2 : w2.1 a = some (.inl (0, cap, .inl (upd f xs.length (nI b))))) (hf : ∀ j, j < xs.length → f j = nI (xs.getD j 0)) : cR w2 r a cap (xs ++ [b]) := by
  obtain ⟨-, -, hcap, hne, hby, -⟩ := h
  refine ⟨by rw [List.length_append]; exact hr2, by rw [List.length_append]; exact hl, hcap, hne, fun x hx => ?_, _, ha2, fun k hk => ?_⟩
  · rcases List.mem_append.mp hx with h | h
    · exact hby x h
    · rw [List.mem_singleton.mp h]; exact hb
  · rw [List.length_append] at hk
    rw [getD_snoc]
    by_cases e : k = xs.length
    · rw [if_pos e, e]; exact pk_us
    · rw [if_neg e, pk_un e]
      exact hf k (by simp at hk; omega)
theorem c_Row_append (h : cR w r a cap xs) {b : Nat} (hb : b < 256) : ab_E G mm_Row_append rr_Row_append 0 [(0, .ref r), (1, .int (nI b))] [] w (pI (bI (decide (xs.length < cap))) fun w2 => rS w w2 r a ∧ cR w2 r a cap (if xs.length < cap then xs ++ [b] else xs)) := by
  have h0 := h
  obtain ⟨hr, hle, hcap, hne, hby, f, ha, hf⟩ := h
  refine e_aload_n dd_Row_append_0 rfl ?_
  refine e_get dd_Row_append_1 kf_Row_15 hr rfl ?_
  refine e_aload_n dd_Row_append_4 rfl ?_
  refine e_get dd_Row_append_5 kf_Row_9 hr rfl ?_
  refine e_alen dd_Row_append_8 ha rfl ?_
  refine e_icmp_lt_n (tgt := 14) dd_Row_append_9 (by decide) (by omega) (by omega) (fun c9 => ?_) (fun c9 => ?_)
  · refine e_aload_n dd_Row_append_14 rfl ?_
    refine e_get dd_Row_append_15 kf_Row_9 hr rfl ?_
    refine e_aload_n dd_Row_append_18 rfl ?_
    refine e_get dd_Row_append_19 kf_Row_15 hr rfl ?_
    refine e_iload_n dd_Row_append_22 rfl ?_
    refine e_iastx dd_Row_append_23 ha rfl rfl (by omega) (by omega) (fun w1 h2n h2v h2f => ?_)
    refine e_aload_n dd_Row_append_24 rfl ?_
    refine e_dup dd_Row_append_25 rfl ?_
    refine e_get dd_Row_append_26 kf_Row_15 ((h2f _ hne).trans hr) rfl ?_
    refine e_iconst_n 1 dd_Row_append_29 (by decide) ?_
    refine e_iadd_n dd_Row_append_30 ?_
    refine e_putx (fs1 := [.ref a, .int (nI (xs.length + 1))]) dd_Row_append_31 kf_Row_15 ((h2f _ hne).trans hr) (Nat.le_of_ble_eq_true rfl) rfl rfl rfl (fun w3 h4n h4v h4f => ?_)
    refine e_iconst_n 1 dd_Row_append_34 (by decide) ?_
    refine e_zret dd_Row_append_35 rfl (by decide) (pI_of (bI_t (by simpa using c9)) ⟨⟨h4n.trans h2n, fun i h8 h9 => (h4f i h8).trans (h2f i h9)⟩, ?_⟩)
    rw [if_pos c9]
    exact h0.snoc hb c9 h4v ((h4f _ hne.symm).trans h2v) hf
  · refine e_iconst_n 0 dd_Row_append_12 (by decide) ?_
    exact e_zret dd_Row_append_13 rfl (by decide) (pI_of (bI_f (by simp; omega)) ⟨rS.rf, by rw [if_neg (by omega)]; exact h0⟩)
/-- where there is room -/
theorem c_Row_app (h : cR w r a cap xs) {b : Nat} (hb : b < 256) (hl : xs.length < cap) : ab_E G mm_Row_append rr_Row_append 0 [(0, .ref r), (1, .int (nI b))] [] w (pI (nI 1) fun w2 => rS w w2 r a ∧ cR w2 r a cap (xs ++ [b])) :=
  (c_Row_append h hb).mono (fun v w2 h2 => by
    obtain ⟨h3, h4, h5⟩ := h2
    rw [if_pos hl] at h5
    exact ⟨by rw [h3, show bI (decide (xs.length < cap)) = nI 1 by rw [decide_eq_true hl]; rfl], h4, h5⟩)
end ROW
