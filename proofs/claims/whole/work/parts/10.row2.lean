/-! More of the row: many bytes, parts of other rows, sums, CHECK. -/
theorem e_rm {G : ab_G} {M : ab_M} {d : Nat × Nat} {pc : Nat} {lv lv1 : List (Nat × Value)} {st : List Value} {w : ab_W} {P : Option Value → ab_W → Prop} (k : Nat) (h : ab_rm lv k = lv1) (kk : ab_E G M d pc lv1 st w P) : ab_E G M d pc lv st w P :=
  ab_go (fun p e R s m args below meth c H locs cells slots ls Q C I hc hs hl k0 => k0 ls ⟨⟨hl.1.1, hl.1.2.1, fun q hq => by
    obtain ⟨q0, h1, rfl⟩ := List.mem_map.mp hq
    rw [← h] at h1
    exact hl.1.2.2 _ (List.mem_map.mpr ⟨q0, (ab_rm_mem h1).1, rfl⟩)⟩, fun q hq => by
    rw [← h] at hq
    exact hl.2 q (ab_rm_mem hq).1⟩) kk
theorem nx_xor (a b : Nat) : nI a ^^^ nI b = nI (a ^^^ b) := by
  apply Int32.toBitVec_inj.1
  show BitVec.ofNat 32 a ^^^ BitVec.ofNat 32 b = BitVec.ofNat 32 (a ^^^ b)
  apply BitVec.eq_of_getLsbD_eq
  intro i hi
  simp [hi]
theorem s_l : ∀ n, n < 32 → ((nI n &&& 31).toBitVec.smod 32).toNat = n := by decide +kernel
section ROW
variable {G : ab_G} {w : ab_W} {r a cap : Nat} {xs : List Nat}
theorem l_Row_appendTimes {b t : Nat} (hb : b < 256) (ht : xs.length + t ≤ cap) : ∀ (n i : Nat) (w1 : ab_W) (ys : List Nat), i + n = t → ys = xs ++ List.replicate i b → cR w1 r a cap ys → rS w w1 r a → ab_E G mm_Row_appendTimes rr_Row_appendTimes 18 [(0, .ref r), (1, .int (nI b)), (2, .int (nI t)), (3, .int (nI i))] [] w1 (pI (nI 1) fun w2 => rS w w2 r a ∧ cR w2 r a cap (xs ++ List.replicate t b)) := by
  intro n
  induction n with
  | zero =>
    intro i w1 ys hi hys h hS
    have hcap := h.2.2.1
    have e0 : i = t := by omega
    subst e0
    refine e_iload_n dd_Row_appendTimes_18 rfl ?_
    refine e_iload_n dd_Row_appendTimes_19 rfl ?_
    refine e_icmp_ge_n (tgt := 49) dd_Row_appendTimes_20 (by decide) (by omega) (by omega) (fun _ => ?_) (fun h9 => absurd h9 (by omega))
    refine e_iconst_n 1 dd_Row_appendTimes_49 (by decide) ?_
    exact e_zret dd_Row_appendTimes_50 rfl (by decide) (pI_of rfl ⟨hS, by rw [← hys]; exact h⟩)
  | succ n ih =>
    intro i w1 ys hi hys h hS
    have h0 := h
    have hyl : ys.length = xs.length + i := by rw [hys]; simp
    obtain ⟨hr, hle, hcap, hne, hby, f, ha, hf⟩ := h
    refine e_iload_n dd_Row_appendTimes_18 rfl ?_
    refine e_iload_n dd_Row_appendTimes_19 rfl ?_
    refine e_icmp_ge_n (tgt := 49) dd_Row_appendTimes_20 (by decide) (by omega) (by omega) (fun h9 => absurd h9 (by omega)) (fun _ => ?_)
    refine e_aload_n dd_Row_appendTimes_23 rfl ?_
    refine e_get dd_Row_appendTimes_24 kf_Row_9 hr rfl ?_
    refine e_aload_n dd_Row_appendTimes_27 rfl ?_
    refine e_get dd_Row_appendTimes_28 kf_Row_15 hr rfl ?_
    refine e_iload_n dd_Row_appendTimes_31 rfl ?_
    refine e_iastx dd_Row_appendTimes_32 ha rfl rfl (by omega) (by omega) (fun w11 h12n h12v h12f => ?_)
    refine e_aload_n dd_Row_appendTimes_33 rfl ?_
    refine e_dup dd_Row_appendTimes_34 rfl ?_
    refine e_get dd_Row_appendTimes_35 kf_Row_15 ((h12f _ hne).trans hr) rfl ?_
    refine e_iconst_n 1 dd_Row_appendTimes_38 (by decide) ?_
    refine e_iadd_n dd_Row_appendTimes_39 ?_
    refine e_putx (fs1 := [.ref a, .int (nI (ys.length + 1))]) dd_Row_appendTimes_40 kf_Row_15 ((h12f _ hne).trans hr) (Nat.le_of_ble_eq_true rfl) rfl rfl rfl (fun w13 h14n h14v h14f => ?_)
    refine e_iinc_n (a := i) (k := 1) (lv1 := [(0, .ref r), (1, .int (nI b)), (2, .int (nI t)), (3, .int (nI (i + 1)))]) dd_Row_appendTimes_43 rfl (by decide) (by decide) rfl ?_
    refine e_goto (tgt := 18) dd_Row_appendTimes_46 (by decide) ?_
    exact ih (i + 1) w13 (ys ++ [b]) (by omega) (by rw [hys, List.replicate_succ', List.append_assoc]) (h0.snoc hb (by omega) h14v ((h14f _ hne.symm).trans h12v) hf) (hS.tr ⟨h14n.trans h12n, fun i h8 h9 => (h14f i h8).trans (h12f i h9)⟩)
theorem c_Row_appendTimes (h : cR w r a cap xs) {b t : Nat} (hb : b < 256) (ht : t < 2 ^ 31) : ab_E G mm_Row_appendTimes rr_Row_appendTimes 0 [(0, .ref r), (1, .int (nI b)), (2, .int (nI t))] [] w (pI (bI (decide (xs.length + t ≤ cap))) fun w2 => rS w w2 r a ∧ cR w2 r a cap (if xs.length + t ≤ cap then xs ++ List.replicate t b else xs)) := by
  have h0 := h
  obtain ⟨hr, hle, hcap, hne, hby, f, ha, hf⟩ := h
  refine e_iload_n dd_Row_appendTimes_0 rfl ?_
  refine e_aload_n dd_Row_appendTimes_1 rfl ?_
  refine e_get dd_Row_appendTimes_2 kf_Row_9 hr rfl ?_
  refine e_alen dd_Row_appendTimes_5 ha rfl ?_
  refine e_aload_n dd_Row_appendTimes_6 rfl ?_
  refine e_get dd_Row_appendTimes_7 kf_Row_15 hr rfl ?_
  refine e_isub_n dd_Row_appendTimes_10 (by omega) ?_
  refine e_icmp_le_n (tgt := 16) dd_Row_appendTimes_11 (by decide) (by omega) (by omega) (fun c9 => ?_) (fun c9 => ?_)
  · refine e_iconst_n 0 dd_Row_appendTimes_16 (by decide) ?_
    refine e_istore_n (lv1 := [(0, .ref r), (1, .int (nI b)), (2, .int (nI t)), (3, .int (nI 0))]) dd_Row_appendTimes_17 (by decide) rfl ?_
    have e1 : xs.length + t ≤ cap := by omega
    rw [decide_eq_true e1, if_pos e1]
    exact l_Row_appendTimes hb e1 t 0 w xs (by omega) (by simp) h0 rS.rf
  · refine e_iconst_n 0 dd_Row_appendTimes_14 (by decide) ?_
    exact e_zret dd_Row_appendTimes_15 rfl (by decide) (pI_of (bI_f (by simp; omega)) ⟨rS.rf, by rw [if_neg (by omega)]; exact h0⟩)
theorem c_Row_appendNumber (h : cR w r a cap xs) {v : Nat} (hv : v < 65536) (hl : xs.length + 2 ≤ cap) : ab_E G mm_Row_appendNumber rr_Row_appendNumber 0 [(0, .ref r), (1, .int (nI v))] [] w (pV fun w2 => rS w w2 r a ∧ cR w2 r a cap (xs ++ [v / 256, v % 256])) := by
  have hr := h.obj
  refine e_aload_n dd_Row_appendNumber_0 rfl ?_
  refine e_iload_n dd_Row_appendNumber_1 rfl ?_
  refine e_sipush_n 256 dd_Row_appendNumber_2 (by decide) ?_
  refine e_idiv_n dd_Row_appendNumber_5 (by omega) (by decide) (by decide) ?_
  refine e_callVi (d1 := rr_Row_append) (As := [.int (nI (v / 256))]) (st := []) dd_Row_appendNumber_6 km_Row_23 hr rfl (by decide) rfl (Nat.le_of_ble_eq_true rfl) (Nat.le_of_ble_eq_true rfl) rfl rfl (c_Row_app h (by omega) (by omega)) (fun w1 h1 => ?_)
  have hr := h1.2.obj
  have e1 : (xs ++ [v / 256]).length = xs.length + 1 := by simp
  refine e_pop dd_Row_appendNumber_9 rfl ?_
  refine e_aload_n dd_Row_appendNumber_10 rfl ?_
  refine e_iload_n dd_Row_appendNumber_11 rfl ?_
  refine e_sipush_n 256 dd_Row_appendNumber_12 (by decide) ?_
  refine e_irem_n dd_Row_appendNumber_15 (by omega) (by decide) (by decide) ?_
  refine e_callVi (d1 := rr_Row_append) (As := [.int (nI (v % 256))]) (st := []) dd_Row_appendNumber_16 km_Row_23 hr rfl (by decide) rfl (Nat.le_of_ble_eq_true rfl) (Nat.le_of_ble_eq_true rfl) rfl rfl (c_Row_app h1.2 (by omega) (by omega)) (fun w2 h2 => ?_)
  refine e_pop dd_Row_appendNumber_19 rfl ?_
  exact e_vret dd_Row_appendNumber_20 rfl (pV_of ⟨h1.1.tr h2.1, by have h3 := h2.2; rw [List.append_assoc] at h3; exact h3⟩)
theorem cR.ne_oa {r2 a2 cap2 : Nat} {ys : List Nat} (h : cR w r a cap xs) (h2 : cR w r2 a2 cap2 ys) : r ≠ a2 := by
  intro e
  obtain ⟨h1, -⟩ := h
  obtain ⟨-, -, -, -, -, f, h3, -⟩ := h2
  rw [e, h3] at h1
  cases h1
theorem getD_app {xs ys : List Nat} {k : Nat} : (xs ++ ys).getD k 0 = if k < xs.length then xs.getD k 0 else ys.getD (k - xs.length) 0 := by
  simp only [List.getD_eq_getElem?_getD]
  by_cases h : k < xs.length
  · rw [if_pos h, List.getElem?_append_left h]
  · rw [if_neg h, List.getElem?_append_right (by omega)]
theorem getD_part {ys : List Nat} {b n k : Nat} (hk : k < n) : ((ys.drop b).take n).getD k 0 = ys.getD (b + k) 0 := by
  simp only [List.getD_eq_getElem?_getD, List.getElem?_take, List.getElem?_drop, if_pos hk]
theorem c_Row_appendPart {r2 a2 cap2 : Nat} {ys : List Nat} (h : cR w r a cap xs) (h2 : cR w r2 a2 cap2 ys) (n1 : r ≠ r2) (n2 : a ≠ a2) {b e : Nat} (hb : b < 2 ^ 31) (he : e < 2 ^ 31) : ab_E G mm_Row_appendPart rr_Row_appendPart 0 [(0, .ref r), (1, .ref r2), (2, .int (nI b)), (3, .int (nI e))] [] w (pI (bI (decide (b ≤ e ∧ e ≤ ys.length ∧ e - b ≤ cap - xs.length))) fun w2 => rS w w2 r a ∧ cR w2 r a cap (if b ≤ e ∧ e ≤ ys.length ∧ e - b ≤ cap - xs.length then xs ++ (ys.drop b).take (e - b) else xs)) := by
  have h0 := h
  have h20 := h2
  have n3 := h.ne_oa h2
  have n4 := h2.ne_oa h
  obtain ⟨hr, hle, hcap, hne, hby, f, ha, hf⟩ := h
  obtain ⟨hr2, hle2, hcap2, hne2, hby2, f2, ha2, hf2⟩ := h2
  refine e_iload_n dd_Row_appendPart_0 rfl ?_
  refine e_if_lt_n (tgt := 33) dd_Row_appendPart_1 (by decide) (by omega) ?_
  refine e_iload_n dd_Row_appendPart_4 rfl ?_
  refine e_iload_n dd_Row_appendPart_5 rfl ?_
  refine e_icmp_gt_n (tgt := 33) dd_Row_appendPart_6 (by decide) (by omega) (by omega) (fun c6 => ?_) (fun c6 => ?_)
  · refine e_iconst_n 0 dd_Row_appendPart_33 (by decide) ?_
    exact e_zret dd_Row_appendPart_34 rfl (by decide) (pI_of (bI_f (decide_eq_false (by omega))) ⟨rS.rf, by rw [if_neg (by omega)]; exact h0⟩)
  · refine e_iload_n dd_Row_appendPart_9 rfl ?_
    refine e_aload_n dd_Row_appendPart_10 rfl ?_
    refine e_get dd_Row_appendPart_11 kf_Row_15 hr2 rfl ?_
    refine e_icmp_gt_n (tgt := 33) dd_Row_appendPart_14 (by decide) (by omega) (by omega) (fun c14 => ?_) (fun c14 => ?_)
    · refine e_iconst_n 0 dd_Row_appendPart_33 (by decide) ?_
      exact e_zret dd_Row_appendPart_34 rfl (by decide) (pI_of (bI_f (decide_eq_false (by omega))) ⟨rS.rf, by rw [if_neg (by omega)]; exact h0⟩)
    · refine e_iload_n dd_Row_appendPart_17 rfl ?_
      refine e_iload_n dd_Row_appendPart_18 rfl ?_
      refine e_isub_n dd_Row_appendPart_19 (by omega) ?_
      refine e_aload_n dd_Row_appendPart_20 rfl ?_
      refine e_get dd_Row_appendPart_21 kf_Row_9 hr rfl ?_
      refine e_alen dd_Row_appendPart_24 ha rfl ?_
      refine e_aload_n dd_Row_appendPart_25 rfl ?_
      refine e_get dd_Row_appendPart_26 kf_Row_15 hr rfl ?_
      refine e_isub_n dd_Row_appendPart_29 (by omega) ?_
      refine e_icmp_le_n (tgt := 35) dd_Row_appendPart_30 (by decide) (by omega) (by omega) (fun c30 => ?_) (fun c30 => ?_)
      · refine e_aload_n dd_Row_appendPart_35 rfl ?_
        refine e_get dd_Row_appendPart_36 kf_Row_9 hr2 rfl ?_
        refine e_iload_n dd_Row_appendPart_39 rfl ?_
        refine e_aload_n dd_Row_appendPart_40 rfl ?_
        refine e_get dd_Row_appendPart_41 kf_Row_9 hr rfl ?_
        refine e_aload_n dd_Row_appendPart_44 rfl ?_
        refine e_get dd_Row_appendPart_45 kf_Row_15 hr rfl ?_
        refine e_iload_n dd_Row_appendPart_48 rfl ?_
        refine e_iload_n dd_Row_appendPart_49 rfl ?_
        refine e_isub_n dd_Row_appendPart_50 (by omega) ?_
        refine e_copyx dd_Row_appendPart_51 km_Row_27 ha2 ha rfl rfl rfl rfl (by omega) (by omega) (by omega) (by omega) (by decide) (fun w1 h2n h2v h2f => ?_)
        refine e_aload_n dd_Row_appendPart_54 rfl ?_
        refine e_dup dd_Row_appendPart_55 rfl ?_
        refine e_get dd_Row_appendPart_56 kf_Row_15 ((h2f _ hne).trans hr) rfl ?_
        refine e_iload_n dd_Row_appendPart_59 rfl ?_
        refine e_iload_n dd_Row_appendPart_60 rfl ?_
        refine e_isub_n dd_Row_appendPart_61 (by omega) ?_
        refine e_iadd_n dd_Row_appendPart_62 ?_
        refine e_putx (fs1 := [.ref a, .int (nI (xs.length + (e - b)))]) dd_Row_appendPart_63 kf_Row_15 ((h2f _ hne).trans hr) (Nat.le_of_ble_eq_true rfl) rfl rfl rfl (fun w3 h4n h4v h4f => ?_)
        refine e_iconst_n 1 dd_Row_appendPart_66 (by decide) ?_
        have e9 : b ≤ e ∧ e ≤ ys.length ∧ e - b ≤ cap - xs.length := by omega
        refine e_zret dd_Row_appendPart_67 rfl (by decide) (pI_of (bI_t (decide_eq_true e9)) ⟨⟨h4n.trans h2n, fun i h8 h9 => (h4f i h8).trans (h2f i h9)⟩, ?_⟩)
        rw [if_pos e9]
        have e8 : ((ys.drop b).take (e - b)).length = e - b := by rw [List.length_take, List.length_drop]; omega
        refine ⟨by rw [List.length_append, e8]; exact h4v, by rw [List.length_append, e8]; omega, hcap, hne, fun x hx => ?_, _, (h4f _ hne.symm).trans h2v, fun k hk => ?_⟩
        · rcases List.mem_append.mp hx with h8 | h8
          · exact hby x h8
          · exact hby2 x (List.mem_of_mem_drop (List.mem_of_mem_take h8))
        · rw [List.length_append, e8] at hk
          rw [getD_app]
          by_cases h8 : k < xs.length
          · rw [if_pos h8, pk_cpy_out (Or.inl h8)]; exact hf k h8
          · rw [if_neg h8, pk_cpy_in (by omega) (by omega), getD_part (by omega)]
            exact hf2 _ (by omega)
      · refine e_iconst_n 0 dd_Row_appendPart_33 (by decide) ?_
        exact e_zret dd_Row_appendPart_34 rfl (by decide) (pI_of (bI_f (decide_eq_false (by omega))) ⟨rS.rf, by rw [if_neg (by omega)]; exact h0⟩)
/-- a part that is there and fits -/
theorem c_Row_part {r2 a2 cap2 : Nat} {ys : List Nat} (h : cR w r a cap xs) (h2 : cR w r2 a2 cap2 ys) (n1 : r ≠ r2) (n2 : a ≠ a2) {b e : Nat} (hb : b ≤ e) (he : e ≤ ys.length) (hl : xs.length + (e - b) ≤ cap) : ab_E G mm_Row_appendPart rr_Row_appendPart 0 [(0, .ref r), (1, .ref r2), (2, .int (nI b)), (3, .int (nI e))] [] w (pI (nI 1) fun w2 => rS w w2 r a ∧ cR w2 r a cap (xs ++ (ys.drop b).take (e - b))) := by
  have h3 := h2.lt
  have e9 : b ≤ e ∧ e ≤ ys.length ∧ e - b ≤ cap - xs.length := by omega
  have h4 := c_Row_appendPart (G := G) h h2 n1 n2 (b := b) (e := e) (by omega) (by omega)
  rw [if_pos e9, decide_eq_true e9] at h4
  exact h4
theorem c_Row_appendAll {r2 a2 cap2 : Nat} {ys : List Nat} (h : cR w r a cap xs) (h2 : cR w r2 a2 cap2 ys) (n1 : r ≠ r2) (n2 : a ≠ a2) (hl : xs.length + ys.length ≤ cap) : ab_E G mm_Row_appendAll rr_Row_appendAll 0 [(0, .ref r), (1, .ref r2)] [] w (pV fun w2 => rS w w2 r a ∧ cR w2 r a cap (xs ++ ys)) := by
  have hr := h.obj
  have hr2 := h2.obj
  have h3 := h2.lt
  refine e_aload_n dd_Row_appendAll_0 rfl ?_
  refine e_aload_n dd_Row_appendAll_1 rfl ?_
  refine e_iconst_n 0 dd_Row_appendAll_2 (by decide) ?_
  refine e_aload_n dd_Row_appendAll_3 rfl ?_
  refine e_get dd_Row_appendAll_4 kf_Row_15 hr2 rfl ?_
  refine e_callVi (d1 := rr_Row_appendPart) (As := [.ref r2, .int (nI 0), .int (nI ys.length)]) (st := []) dd_Row_appendAll_7 km_Row_33 hr rfl (by decide) rfl (Nat.le_of_ble_eq_true rfl) (Nat.le_of_ble_eq_true rfl) rfl rfl (c_Row_part h h2 n1 n2 (Nat.zero_le _) (Nat.le_refl _) (by omega)) (fun w1 h4 => ?_)
  refine e_pop dd_Row_appendAll_10 rfl ?_
  exact e_vret dd_Row_appendAll_11 rfl (pV_of ⟨h4.1, by have h5 := h4.2; simpa using h5⟩)
theorem c_Row_become {r2 a2 cap2 : Nat} {ys : List Nat} (h : cR w r a cap xs) (h2 : cR w r2 a2 cap2 ys) (n1 : r ≠ r2) (n2 : a ≠ a2) (hl : ys.length ≤ cap) : ab_E G mm_Row_become rr_Row_become 0 [(0, .ref r), (1, .ref r2)] [] w (pV fun w2 => rS w w2 r a ∧ cR w2 r a cap ys) := by
  have hr := h.obj
  have n3 := h.ne_oa h2
  have n4 := h2.ne_oa h
  refine e_aload_n dd_Row_become_0 rfl ?_
  refine e_iconst_n 0 dd_Row_become_1 (by decide) ?_
  refine e_callVv (d1 := rr_Row_cutTo) (As := [.int (nI 0)]) (st := []) dd_Row_become_2 km_Row_37 hr rfl (by decide) rfl (Nat.le_of_ble_eq_true rfl) (Nat.le_of_ble_eq_true rfl) rfl rfl (c_Row_cutTo h (k := 0) (by decide)) (fun w1 h3 => ?_)
  have h4 := h3.2
  rw [List.take_zero] at h4
  have hr := h4.obj
  have h5 := h2.keep (h3.1.2 r2 n1.symm n4) (h3.1.2 a2 n3.symm n2.symm)
  refine e_aload_n dd_Row_become_5 rfl ?_
  refine e_aload_n dd_Row_become_6 rfl ?_
  refine e_callVv (d1 := rr_Row_appendAll) (As := [.ref r2]) (st := []) dd_Row_become_7 km_Row_41 hr rfl (by decide) rfl (Nat.le_of_ble_eq_true rfl) (Nat.le_of_ble_eq_true rfl) rfl rfl (c_Row_appendAll h4 h5 n1 n2 (by simpa using hl)) (fun w2 h6 => ?_)
  exact e_vret dd_Row_become_10 rfl (pV_of ⟨h3.1.tr h6.1, by simpa using h6.2⟩)
end ROW
