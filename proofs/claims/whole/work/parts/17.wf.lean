/-! ArchiveBench$WaitingFile and ArchiveBench$Packer. The class's objects have fixed numbers: waiting file i at 8 + 5 i, its name at 9 + 5 i, its squeezed bytes at 11 + 5 i; the packer at 6, its array at 7, the draft at 38. -/
abbrev FW : Type := List Nat × Nat × List Nat
def fsq (f : FW) : List Nat := sqz f.2.1 f.2.2
def fwOK (f : FW) : Prop := 1 ≤ f.1.length ∧ f.1.length ≤ 8 ∧ f.2.1 ≤ 2 ∧ f.2.2.length ≤ 60 ∧ (∀ x ∈ f.1, x < 256) ∧ ∀ x ∈ f.2.2, x < 256
theorem fsq_len {f : FW} (h : fwOK f) : (fsq f).length ≤ 120 := by
  have h1 := sqz_len f.2.1 f.2.2
  have h2 := h.2.2.2.1
  show (sqz f.2.1 f.2.2).length ≤ 120
  omega
def cWF (w : ab_W) (i : Nat) (nm sq : List Nat) (m n ck : Nat) (x : Int32) : Prop := w.1 (8 + 5 * i) = some (.inr (3, [.ref (9 + 5 * i), .ref (11 + 5 * i), .int (nI m), .int (nI n), .int (nI ck), .int x])) ∧ cR w (9 + 5 * i) (10 + 5 * i) 8 nm ∧ cR w (11 + 5 * i) (12 + 5 * i) 120 sq
/-- nothing outside the numbers lo .. hi - 1 has changed -/
def rG (w w2 : ab_W) (lo hi : Nat) : Prop := w2.2 = w.2 ∧ ∀ j, (j < lo ∨ hi ≤ j) → w2.1 j = w.1 j
theorem rG.tr {w w1 w2 : ab_W} {lo hi : Nat} (h1 : rG w w1 lo hi) (h2 : rG w1 w2 lo hi) : rG w w2 lo hi := ⟨h2.1.trans h1.1, fun j hj => (h2.2 j hj).trans (h1.2 j hj)⟩
theorem rG.rf {w : ab_W} {lo hi : Nat} : rG w w lo hi := ⟨rfl, fun _ _ => rfl⟩
theorem rG.wide {w w1 : ab_W} {lo hi lo2 hi2 : Nat} (h : rG w w1 lo hi) (h1 : lo2 ≤ lo) (h2 : hi ≤ hi2) : rG w w1 lo2 hi2 := ⟨h.1, fun j hj => h.2 j (by omega)⟩
theorem rS.G {w w2 : ab_W} {r a lo hi : Nat} (h : rS w w2 r a) (h1 : lo ≤ r ∧ r < hi) (h2 : lo ≤ a ∧ a < hi) : rG w w2 lo hi := ⟨h.1, fun j hj => h.2 j (by omega) (by omega)⟩
theorem cR.G {w w2 : ab_W} {r a cap lo hi : Nat} {xs : List Nat} (h : cR w r a cap xs) (hG : rG w w2 lo hi) (h1 : r < lo ∨ hi ≤ r) (h2 : a < lo ∨ hi ≤ a) : cR w2 r a cap xs := h.keep (hG.2 r h1) (hG.2 a h2)
theorem cWF.fr {w w2 : ab_W} {i r a : Nat} {nm sq : List Nat} {m n ck : Nat} {x : Int32} (h : cWF w i nm sq m n ck x) (hS : rS w w2 r a) (hr : r < 8 + 5 * i ∨ 13 + 5 * i ≤ r) (ha : a < 8 + 5 * i ∨ 13 + 5 * i ≤ a) : cWF w2 i nm sq m n ck x :=
  ⟨(hS.2 _ (by omega) (by omega)).trans h.1, h.2.1.fr hS (by omega) (by omega) (by omega) (by omega), h.2.2.fr hS (by omega) (by omega) (by omega) (by omega)⟩
theorem cWF.G {w w2 : ab_W} {i lo hi : Nat} {nm sq : List Nat} {m n ck : Nat} {x : Int32} (h : cWF w i nm sq m n ck x) (hG : rG w w2 lo hi) (h1 : 13 + 5 * i ≤ lo ∨ hi ≤ 8 + 5 * i) : cWF w2 i nm sq m n ck x :=
  ⟨(hG.2 _ (by omega)).trans h.1, h.2.1.G hG (by omega) (by omega), h.2.2.G hG (by omega) (by omega)⟩
section WF
variable {G : ab_G} {w : ab_W} {i : Nat} {nm sq by_ : List Nat} {m n ck : Nat} {x : Int32}
set_option maxRecDepth 100000 in
set_option maxHeartbeats 4000000 in
theorem c_WF_become {nm0 sq0 : List Nat} {m0 n0 ck0 : Nat} (h : cWF w i nm0 sq0 m0 n0 ck0 x) (h1 : cR w 2 3 8 nm) (h2 : cR w 4 5 60 by_) (hm : m ≤ 2) : ab_E G mm_WF_become rr_WF_become 0 [(0, .ref (8 + 5 * i)), (1, .ref 2), (2, .ref 4), (3, .int (nI m))] [] w (pV fun w2 => rG w w2 (8 + 5 * i) (13 + 5 * i) ∧ cWF w2 i nm (sqz m by_) m by_.length (crc by_) x) := by
  obtain ⟨ho, hn, hs⟩ := h
  have hr := hn.obj
  have hl1 := h1.2.1
  have hl2 := h2.2.1
  refine e_aload_n dd_WF_become_0 rfl ?_
  refine e_get dd_WF_become_1 kf_WF_14 ho rfl ?_
  refine e_aload_n dd_WF_become_4 rfl ?_
  refine e_callVv (d1 := rr_Row_become) (As := [.ref 2]) (st := []) dd_WF_become_5 km_WF_23 hr rfl (by decide) rfl (Nat.le_of_ble_eq_true rfl) (Nat.le_of_ble_eq_true rfl) rfl rfl (c_Row_become hn h1 (by omega) (by omega) hl1) (fun w1 k1 => ?_)
  have ho := (k1.1.2 (8 + 5 * i) (by omega) (by omega)).trans ho
  have hs := hs.fr k1.1 (by omega) (by omega) (by omega) (by omega)
  have h2 := h2.fr k1.1 (by omega) (by omega) (by omega) (by omega)
  refine e_iload_n dd_WF_become_8 rfl ?_
  refine e_aload_n dd_WF_become_9 rfl ?_
  refine e_aload_n dd_WF_become_10 rfl ?_
  refine e_get dd_WF_become_11 kf_WF_20 ho rfl ?_
  refine e_callSv (d1 := rr_Sq_squeeze) (As := [.int (nI m), .ref 4, .ref (11 + 5 * i)]) (st := []) dd_WF_become_14 km_WF_27 (by decide) rfl (Nat.le_of_ble_eq_true rfl) (Nat.le_of_ble_eq_true rfl) rfl rfl (c_Sq_squeeze (by omega) h2 hs (by omega) (by omega) (by omega)) (fun w2 k2 => ?_)
  have ho := (k2.1.2 (8 + 5 * i) (by omega) (by omega)).trans ho
  have hn := k1.2.fr k2.1 (by omega) (by omega) (by omega) (by omega)
  have h2 := h2.fr k2.1 (by omega) (by omega) (by omega) (by omega)
  have hr4 := h2.obj
  refine e_aload_n dd_WF_become_17 rfl ?_
  refine e_iload_n dd_WF_become_18 rfl ?_
  refine e_putx (fs1 := [.ref (9 + 5 * i), .ref (11 + 5 * i), .int (nI m), .int (nI n0), .int (nI ck0), .int x]) dd_WF_become_19 kf_WF_33 ho (Nat.le_of_ble_eq_true rfl) rfl rfl rfl (fun w21 h22n h22v h22f => ?_)
  refine e_aload_n dd_WF_become_22 rfl ?_
  refine e_aload_n dd_WF_become_23 rfl ?_
  refine e_get dd_WF_become_24 kf_WF_37 ((h22f _ (by omega)).trans hr4) rfl ?_
  refine e_putx (fs1 := [.ref (9 + 5 * i), .ref (11 + 5 * i), .int (nI m), .int (nI by_.length), .int (nI ck0), .int x]) dd_WF_become_27 kf_WF_40 h22v (Nat.le_of_ble_eq_true rfl) rfl rfl rfl (fun w23 h24n h24v h24f => ?_)
  have h2 := h2.keep ((h24f 4 (by omega)).trans (h22f 4 (by omega))) ((h24f 5 (by omega)).trans (h22f 5 (by omega)))
  have hr4 := h2.obj
  have k3 := c_Row_check (G := G) h2 (Nat.zero_le _) (Nat.le_refl _)
  rw [List.drop_zero, Nat.sub_zero, List.take_length] at k3
  refine e_aload_n dd_WF_become_30 rfl ?_
  refine e_aload_n dd_WF_become_31 rfl ?_
  refine e_iconst_n 0 dd_WF_become_32 (by decide) ?_
  refine e_aload_n dd_WF_become_33 rfl ?_
  refine e_get dd_WF_become_34 kf_WF_37 hr4 rfl ?_
  refine e_callVp (d1 := rr_Row_check) (As := [.int (nI 0), .int (nI by_.length)]) (st := [.ref (8 + 5 * i)]) dd_WF_become_37 km_WF_41 hr4 rfl (by decide) rfl (Nat.le_of_ble_eq_true rfl) (Nat.le_of_ble_eq_true rfl) rfl rfl (k3) ?_
  refine e_putx (fs1 := [.ref (9 + 5 * i), .ref (11 + 5 * i), .int (nI m), .int (nI by_.length), .int (nI (crc by_)), .int x]) dd_WF_become_40 kf_WF_45 h24v (Nat.le_of_ble_eq_true rfl) rfl rfl rfl (fun w25 h26n h26v h26f => ?_)
  have g : ∀ j, j ≠ 8 + 5 * i → w25.1 j = w2.1 j := fun j hj => (h26f j hj).trans ((h24f j hj).trans (h22f j hj))
  refine e_vret dd_WF_become_43 rfl (pV_of ⟨⟨h26n.trans (h24n.trans (h22n.trans (k2.1.1.trans k1.1.1))), fun j hj => (g j (by omega)).trans ((k2.1.2 j (by omega) (by omega)).trans (k1.1.2 j (by omega) (by omega)))⟩, h26v, hn.keep (g _ (by omega)) (g _ (by omega)), k2.2.keep (g _ (by omega)) (g _ (by omega))⟩)
set_option maxRecDepth 100000 in
set_option maxHeartbeats 4000000 in
theorem c_WF_appendMethodAndName {acc : List Nat} (h : cWF w i nm sq m n ck x) (hi : i < 6) (hm : m < 256) (hd : cR w 38 39 823 acc) (hl : acc.length + 2 + nm.length ≤ 823) : ab_E G mm_WF_appendMethodAndName rr_WF_appendMethodAndName 0 [(0, .ref (8 + 5 * i)), (1, .ref 38)] [] w (pV fun w2 => rS w w2 38 39 ∧ cR w2 38 39 823 (acc ++ ([m, nm.length] ++ nm))) := by
  have hl8 := h.2.1.2.1
  have ho := h.1
  have hr := hd.obj
  refine e_aload_n dd_WF_appendMethodAndName_0 rfl ?_
  refine e_aload_n dd_WF_appendMethodAndName_1 rfl ?_
  refine e_get dd_WF_appendMethodAndName_2 kf_WF_33 ho rfl ?_
  refine e_callVi (d1 := rr_Row_append) (As := [.int (nI m)]) (st := []) dd_WF_appendMethodAndName_5 km_WF_47 hr rfl (by decide) rfl (Nat.le_of_ble_eq_true rfl) (Nat.le_of_ble_eq_true rfl) rfl rfl (c_Row_app hd hm (by omega)) (fun w1 k1 => ?_)
  have h1 := h.fr k1.1 (by omega) (by omega)
  have ho := h1.1
  have hn := h1.2.1
  have hrn := hn.obj
  have hr := k1.2.obj
  have e1 : (acc ++ [m]).length = acc.length + 1 := by simp
  refine e_pop dd_WF_appendMethodAndName_8 rfl ?_
  refine e_aload_n dd_WF_appendMethodAndName_9 rfl ?_
  refine e_aload_n dd_WF_appendMethodAndName_10 rfl ?_
  refine e_get dd_WF_appendMethodAndName_11 kf_WF_14 ho rfl ?_
  refine e_get dd_WF_appendMethodAndName_14 kf_WF_37 hrn rfl ?_
  refine e_callVi (d1 := rr_Row_append) (As := [.int (nI nm.length)]) (st := []) dd_WF_appendMethodAndName_17 km_WF_47 hr rfl (by decide) rfl (Nat.le_of_ble_eq_true rfl) (Nat.le_of_ble_eq_true rfl) rfl rfl (c_Row_app k1.2 (by omega) (by omega)) (fun w2 k2 => ?_)
  have h2 := h1.fr k2.1 (by omega) (by omega)
  have ho := h2.1
  have hn := h2.2.1
  have hr := k2.2.obj
  have e2 : (acc ++ [m] ++ [nm.length]).length = acc.length + 2 := by simp
  refine e_pop dd_WF_appendMethodAndName_20 rfl ?_
  refine e_aload_n dd_WF_appendMethodAndName_21 rfl ?_
  refine e_aload_n dd_WF_appendMethodAndName_22 rfl ?_
  refine e_get dd_WF_appendMethodAndName_23 kf_WF_14 ho rfl ?_
  refine e_callVv (d1 := rr_Row_appendAll) (As := [.ref (9 + 5 * i)]) (st := []) dd_WF_appendMethodAndName_26 km_WF_51 hr rfl (by decide) rfl (Nat.le_of_ble_eq_true rfl) (Nat.le_of_ble_eq_true rfl) rfl rfl (c_Row_appendAll k2.2 hn (by omega) (by omega) (by omega)) (fun w3 k3 => ?_)
  exact e_vret dd_WF_appendMethodAndName_29 rfl (pV_of ⟨k1.1.tr (k2.1.tr k3.1), by have k4 := k3.2; rw [List.append_assoc, List.append_assoc] at k4; simpa using k4⟩)
set_option maxRecDepth 100000 in
set_option maxHeartbeats 4000000 in
theorem c_WF_appendLengthsAndCheck {acc : List Nat} (h : cWF w i nm sq m n ck x) (hi : i < 6) (hn : n < 256) (hc : ck < 65536) (hd : cR w 38 39 823 acc) (hl : acc.length + 4 ≤ 823) : ab_E G mm_WF_appendLengthsAndCheck rr_WF_appendLengthsAndCheck 0 [(0, .ref (8 + 5 * i)), (1, .ref 38)] [] w (pV fun w2 => rS w w2 38 39 ∧ cR w2 38 39 823 (acc ++ [sq.length, n, ck / 256, ck % 256])) := by
  have hl8 := h.2.2.2.1
  have ho := h.1
  have hrs := h.2.2.obj
  have hr := hd.obj
  refine e_aload_n dd_WF_appendLengthsAndCheck_0 rfl ?_
  refine e_aload_n dd_WF_appendLengthsAndCheck_1 rfl ?_
  refine e_get dd_WF_appendLengthsAndCheck_2 kf_WF_20 ho rfl ?_
  refine e_get dd_WF_appendLengthsAndCheck_5 kf_WF_37 hrs rfl ?_
  refine e_callVi (d1 := rr_Row_append) (As := [.int (nI sq.length)]) (st := []) dd_WF_appendLengthsAndCheck_8 km_WF_47 hr rfl (by decide) rfl (Nat.le_of_ble_eq_true rfl) (Nat.le_of_ble_eq_true rfl) rfl rfl (c_Row_app hd (by omega) (by omega)) (fun w1 k1 => ?_)
  have h1 := h.fr k1.1 (by omega) (by omega)
  have ho := h1.1
  have hr := k1.2.obj
  have e1 : (acc ++ [sq.length]).length = acc.length + 1 := by simp
  refine e_pop dd_WF_appendLengthsAndCheck_11 rfl ?_
  refine e_aload_n dd_WF_appendLengthsAndCheck_12 rfl ?_
  refine e_aload_n dd_WF_appendLengthsAndCheck_13 rfl ?_
  refine e_get dd_WF_appendLengthsAndCheck_14 kf_WF_40 ho rfl ?_
  refine e_callVi (d1 := rr_Row_append) (As := [.int (nI n)]) (st := []) dd_WF_appendLengthsAndCheck_17 km_WF_47 hr rfl (by decide) rfl (Nat.le_of_ble_eq_true rfl) (Nat.le_of_ble_eq_true rfl) rfl rfl (c_Row_app k1.2 hn (by omega)) (fun w2 k2 => ?_)
  have h2 := h1.fr k2.1 (by omega) (by omega)
  have ho := h2.1
  have hr := k2.2.obj
  have e2 : (acc ++ [sq.length] ++ [n]).length = acc.length + 2 := by simp
  refine e_pop dd_WF_appendLengthsAndCheck_20 rfl ?_
  refine e_aload_n dd_WF_appendLengthsAndCheck_21 rfl ?_
  refine e_aload_n dd_WF_appendLengthsAndCheck_22 rfl ?_
  refine e_get dd_WF_appendLengthsAndCheck_23 kf_WF_45 ho rfl ?_
  refine e_callVv (d1 := rr_Row_appendNumber) (As := [.int (nI ck)]) (st := []) dd_WF_appendLengthsAndCheck_26 km_WF_54 hr rfl (by decide) rfl (Nat.le_of_ble_eq_true rfl) (Nat.le_of_ble_eq_true rfl) rfl rfl (c_Row_appendNumber k2.2 hc (by omega)) (fun w3 k3 => ?_)
  exact e_vret dd_WF_appendLengthsAndCheck_29 rfl (pV_of ⟨k1.1.tr (k2.1.tr k3.1), by have k4 := k3.2; rw [List.append_assoc, List.append_assoc] at k4; simpa using k4⟩)
set_option maxRecDepth 100000 in
set_option maxHeartbeats 4000000 in
theorem c_Pk_zerosBehind {e : Nat} (he : e < 100000) : ab_E G mm_Pk_zerosBehind rr_Pk_zerosBehind 0 [(0, .int (nI e))] [] w (pP (nI ((4 - e % 4) % 4)) w) := by
  refine e_iconst_n 4 dd_Pk_zerosBehind_0 (by decide) ?_
  refine e_iload_n dd_Pk_zerosBehind_1 rfl ?_
  refine e_iconst_n 4 dd_Pk_zerosBehind_2 (by decide) ?_
  refine e_irem_n dd_Pk_zerosBehind_3 (by omega) (by decide) (by decide) ?_
  refine e_isub_n dd_Pk_zerosBehind_4 (by omega) ?_
  refine e_iconst_n 4 dd_Pk_zerosBehind_5 (by decide) ?_
  refine e_irem_n dd_Pk_zerosBehind_6 (by omega) (by decide) (by decide) ?_
  exact e_iret dd_Pk_zerosBehind_7 rfl (pP_of rfl)
/-- a record's head up to its sum; a directory's entry -/
def hd1 (nm : List Nat) (sl m n ck : Nat) : List Nat := 67 :: ([m, nm.length] ++ nm ++ [sl, n, ck / 256, ck % 256])
def rec1 (acc : List Nat) (nm sq : List Nat) (m n ck : Nat) : List Nat := acc ++ hd1 nm sq.length m n ck ++ [(hd1 nm sq.length m n ck).sum % 256] ++ sq
def recP (acc : List Nat) : List Nat := acc ++ List.replicate ((4 - acc.length % 4) % 4) 0
def ent1 (nm : List Nat) (sl m n ck at_ : Nat) : List Nat := [m, nm.length] ++ nm ++ [at_ / 256, at_ % 256] ++ [sl, n, ck / 256, ck % 256]
theorem hd1_len (nm : List Nat) (sl m n ck : Nat) : (hd1 nm sl m n ck).length = nm.length + 7 := by simp [hd1]
set_option maxRecDepth 100000 in
set_option maxHeartbeats 4000000 in
theorem c_Pk_appendRecord {acc : List Nat} {k : Nat} (h6 : w.1 6 = some (.inr (2, [.ref 7, .int (nI k), .ref 38]))) (h : cWF w i nm sq m n ck x) (hi : i < 6) (hm : m < 256) (hn : n < 256) (hc : ck < 65536) (hd : cR w 38 39 823 acc) (hl : acc.length + 8 + nm.length + sq.length + 3 ≤ 823) : ab_E G mm_Pk_appendRecord rr_Pk_appendRecord 0 [(0, .ref 6), (1, .ref (8 + 5 * i))] [] w (pV fun w2 => rS w w2 38 39 ∧ cR w2 38 39 823 (recP (rec1 acc nm sq m n ck))) := by
  have ho := h.1
  have hr := hd.obj
  have hlt := hd.lt
  refine e_aload_n dd_Pk_appendRecord_0 rfl ?_
  refine e_get dd_Pk_appendRecord_1 kf_Pk_27 h6 rfl ?_
  refine e_get dd_Pk_appendRecord_4 kf_Pk_42 hr rfl ?_
  refine e_istore_n (lv1 := [(0, .ref 6), (1, .ref (8 + 5 * i)), (2, .int (nI acc.length))]) dd_Pk_appendRecord_7 (by decide) rfl ?_
  refine e_aload_n dd_Pk_appendRecord_8 rfl ?_
  refine e_get dd_Pk_appendRecord_9 kf_Pk_27 h6 rfl ?_
  refine e_bipush_n 67 dd_Pk_appendRecord_12 (by decide) ?_
  refine e_callVi (d1 := rr_Row_append) (As := [.int (nI 67)]) (st := []) dd_Pk_appendRecord_14 km_Pk_38 hr rfl (by decide) rfl (Nat.le_of_ble_eq_true rfl) (Nat.le_of_ble_eq_true rfl) rfl rfl (c_Row_app hd (by decide) (by omega)) (fun w1 k1 => ?_)
  have h1 := h.fr k1.1 (by omega) (by omega)
  have ho := h1.1
  have h6 := (k1.1.2 6 (by decide) (by decide)).trans h6
  have hr := k1.2.obj
  have e1 : (acc ++ [67]).length = acc.length + 1 := by simp
  refine e_pop dd_Pk_appendRecord_17 rfl ?_
  refine e_aload_n dd_Pk_appendRecord_18 rfl ?_
  refine e_aload_n dd_Pk_appendRecord_19 rfl ?_
  refine e_get dd_Pk_appendRecord_20 kf_Pk_27 h6 rfl ?_
  refine e_callVv (d1 := rr_WF_appendMethodAndName) (As := [.ref 38]) (st := []) dd_Pk_appendRecord_23 km_Pk_45 ho rfl (by decide) rfl (Nat.le_of_ble_eq_true rfl) (Nat.le_of_ble_eq_true rfl) rfl rfl (c_WF_appendMethodAndName h1 hi hm k1.2 (by omega)) (fun w2 k2 => ?_)
  have h2 := h1.fr k2.1 (by omega) (by omega)
  have ho := h2.1
  have h6 := (k2.1.2 6 (by decide) (by decide)).trans h6
  have hr := k2.2.obj
  have e2 : (acc ++ [67] ++ ([m, nm.length] ++ nm)).length = acc.length + 3 + nm.length := by simp; omega
  refine e_aload_n dd_Pk_appendRecord_26 rfl ?_
  refine e_aload_n dd_Pk_appendRecord_27 rfl ?_
  refine e_get dd_Pk_appendRecord_28 kf_Pk_27 h6 rfl ?_
  refine e_callVv (d1 := rr_WF_appendLengthsAndCheck) (As := [.ref 38]) (st := []) dd_Pk_appendRecord_31 km_Pk_49 ho rfl (by decide) rfl (Nat.le_of_ble_eq_true rfl) (Nat.le_of_ble_eq_true rfl) rfl rfl (c_WF_appendLengthsAndCheck h2 hi hn hc k2.2 (by omega)) (fun w3 k3 => ?_)
  have e3 : acc ++ [67] ++ ([m, nm.length] ++ nm) ++ [sq.length, n, ck / 256, ck % 256] = acc ++ hd1 nm sq.length m n ck := by simp [hd1]
  rw [e3] at k3
  have e4 := hd1_len nm sq.length m n ck
  have h3 := h2.fr k3.1 (by omega) (by omega)
  have ho := h3.1
  have h6 := (k3.1.2 6 (by decide) (by decide)).trans h6
  have hr := k3.2.obj
  generalize hH : hd1 nm sq.length m n ck = H at k3 hr e4
  have e5 : (acc ++ H).length = acc.length + H.length := by simp
  have k4 := c_Row_sum (G := G) k3.2 (b := acc.length) (e := (acc ++ H).length) (by omega) (Nat.le_refl _)
  rw [List.drop_left, show (acc ++ H).length - acc.length = H.length by omega, List.take_length] at k4
  refine e_aload_n dd_Pk_appendRecord_34 rfl ?_
  refine e_get dd_Pk_appendRecord_35 kf_Pk_27 h6 rfl ?_
  refine e_aload_n dd_Pk_appendRecord_38 rfl ?_
  refine e_get dd_Pk_appendRecord_39 kf_Pk_27 h6 rfl ?_
  refine e_iload_n dd_Pk_appendRecord_42 rfl ?_
  refine e_aload_n dd_Pk_appendRecord_43 rfl ?_
  refine e_get dd_Pk_appendRecord_44 kf_Pk_27 h6 rfl ?_
  refine e_get dd_Pk_appendRecord_47 kf_Pk_42 hr rfl ?_
  refine e_callVp (d1 := rr_Row_sum) (As := [.int (nI acc.length), .int (nI (acc ++ H).length)]) (st := [.ref 38]) dd_Pk_appendRecord_50 km_Pk_52 hr rfl (by decide) rfl (Nat.le_of_ble_eq_true rfl) (Nat.le_of_ble_eq_true rfl) rfl rfl (k4) ?_
  refine e_callVi (d1 := rr_Row_append) (As := [.int (nI (H.sum % 256))]) (st := []) dd_Pk_appendRecord_53 km_Pk_38 hr rfl (by decide) rfl (Nat.le_of_ble_eq_true rfl) (Nat.le_of_ble_eq_true rfl) rfl rfl (c_Row_app k3.2 (by omega) (by omega)) (fun w4 k5 => ?_)
  have h4 := h3.fr k5.1 (by omega) (by omega)
  have ho := h4.1
  have h6 := (k5.1.2 6 (by decide) (by decide)).trans h6
  have hr := k5.2.obj
  have hs := h4.2.2
  have e6 : (acc ++ H ++ [H.sum % 256]).length = acc.length + H.length + 1 := by simp; omega
  refine e_pop dd_Pk_appendRecord_56 rfl ?_
  refine e_aload_n dd_Pk_appendRecord_57 rfl ?_
  refine e_get dd_Pk_appendRecord_58 kf_Pk_27 h6 rfl ?_
  refine e_aload_n dd_Pk_appendRecord_61 rfl ?_
  refine e_get dd_Pk_appendRecord_62 kf_Pk_56 ho rfl ?_
  refine e_callVv (d1 := rr_Row_appendAll) (As := [.ref (11 + 5 * i)]) (st := []) dd_Pk_appendRecord_65 km_Pk_59 hr rfl (by decide) rfl (Nat.le_of_ble_eq_true rfl) (Nat.le_of_ble_eq_true rfl) rfl rfl (c_Row_appendAll k5.2 hs (by omega) (by omega) (by omega)) (fun w5 k6 => ?_)
  have h5 := h4.fr k6.1 (by omega) (by omega)
  have ho := h5.1
  have h6 := (k6.1.2 6 (by decide) (by decide)).trans h6
  have hr := k6.2.obj
  have e7 : (acc ++ H ++ [H.sum % 256] ++ sq).length = acc.length + H.length + 1 + sq.length := by simp; omega
  have e9 : acc ++ H ++ [H.sum % 256] ++ sq = rec1 acc nm sq m n ck := by rw [rec1, hH]
  generalize hA : acc ++ H ++ [H.sum % 256] ++ sq = A at k6 hr e7 e9
  refine e_aload_n dd_Pk_appendRecord_68 rfl ?_
  refine e_get dd_Pk_appendRecord_69 kf_Pk_27 h6 rfl ?_
  refine e_iconst_n 0 dd_Pk_appendRecord_72 (by decide) ?_
  refine e_aload_n dd_Pk_appendRecord_73 rfl ?_
  refine e_get dd_Pk_appendRecord_74 kf_Pk_27 h6 rfl ?_
  refine e_get dd_Pk_appendRecord_77 kf_Pk_42 hr rfl ?_
  refine e_callSp (d1 := rr_Pk_zerosBehind) (As := [.int (nI A.length)]) (st := [.int (nI 0), .ref 38]) dd_Pk_appendRecord_80 km_Pk_62 (by decide) rfl (Nat.le_of_ble_eq_true rfl) (Nat.le_of_ble_eq_true rfl) rfl rfl (c_Pk_zerosBehind (by omega)) ?_
  have k7 := c_Row_appendTimes (G := G) k6.2 (b := 0) (t := (4 - A.length % 4) % 4) (by decide) (by omega)
  have e8 : A.length + (4 - A.length % 4) % 4 ≤ 823 := by omega
  rw [if_pos e8, decide_eq_true e8] at k7
  refine e_callVi (d1 := rr_Row_appendTimes) (As := [.int (nI 0), .int (nI ((4 - A.length % 4) % 4))]) (st := []) dd_Pk_appendRecord_83 km_Pk_66 hr rfl (by decide) rfl (Nat.le_of_ble_eq_true rfl) (Nat.le_of_ble_eq_true rfl) rfl rfl (k7) (fun w6 k8 => ?_)
  refine e_pop dd_Pk_appendRecord_86 rfl ?_
  exact e_vret dd_Pk_appendRecord_87 rfl (pV_of ⟨k1.1.tr (k2.1.tr (k3.1.tr (k5.1.tr (k6.1.tr k8.1)))), by rw [← e9]; exact k8.2⟩)
set_option maxRecDepth 100000 in
set_option maxHeartbeats 4000000 in
theorem c_Pk_appendEntry {acc : List Nat} {k at_ : Nat} (h6 : w.1 6 = some (.inr (2, [.ref 7, .int (nI k), .ref 38]))) (h : cWF w i nm sq m n ck (nI at_)) (hi : i < 6) (hm : m < 256) (hn : n < 256) (hc : ck < 65536) (ha : at_ < 65536) (hd : cR w 38 39 823 acc) (hl : acc.length + 8 + nm.length ≤ 823) : ab_E G mm_Pk_appendEntry rr_Pk_appendEntry 0 [(0, .ref 6), (1, .ref (8 + 5 * i))] [] w (pV fun w2 => rS w w2 38 39 ∧ cR w2 38 39 823 (acc ++ ent1 nm sq.length m n ck at_)) := by
  have ho := h.1
  have hr := hd.obj
  refine e_aload_n dd_Pk_appendEntry_0 rfl ?_
  refine e_aload_n dd_Pk_appendEntry_1 rfl ?_
  refine e_get dd_Pk_appendEntry_2 kf_Pk_27 h6 rfl ?_
  refine e_callVv (d1 := rr_WF_appendMethodAndName) (As := [.ref 38]) (st := []) dd_Pk_appendEntry_5 km_Pk_45 ho rfl (by decide) rfl (Nat.le_of_ble_eq_true rfl) (Nat.le_of_ble_eq_true rfl) rfl rfl (c_WF_appendMethodAndName h hi hm hd (by omega)) (fun w1 k1 => ?_)
  have h1 := h.fr k1.1 (by omega) (by omega)
  have ho := h1.1
  have h6 := (k1.1.2 6 (by decide) (by decide)).trans h6
  have hr := k1.2.obj
  have e2 : (acc ++ ([m, nm.length] ++ nm)).length = acc.length + 2 + nm.length := by simp; omega
  refine e_aload_n dd_Pk_appendEntry_8 rfl ?_
  refine e_get dd_Pk_appendEntry_9 kf_Pk_27 h6 rfl ?_
  refine e_aload_n dd_Pk_appendEntry_12 rfl ?_
  refine e_get dd_Pk_appendEntry_13 kf_Pk_70 ho rfl ?_
  refine e_callVv (d1 := rr_Row_appendNumber) (As := [.int (nI at_)]) (st := []) dd_Pk_appendEntry_16 km_Pk_79 hr rfl (by decide) rfl (Nat.le_of_ble_eq_true rfl) (Nat.le_of_ble_eq_true rfl) rfl rfl (c_Row_appendNumber k1.2 ha (by omega)) (fun w2 k2 => ?_)
  have h2 := h1.fr k2.1 (by omega) (by omega)
  have ho := h2.1
  have h6 := (k2.1.2 6 (by decide) (by decide)).trans h6
  have hr := k2.2.obj
  have e3 : (acc ++ ([m, nm.length] ++ nm) ++ [at_ / 256, at_ % 256]).length = acc.length + 4 + nm.length := by simp; omega
  refine e_aload_n dd_Pk_appendEntry_19 rfl ?_
  refine e_aload_n dd_Pk_appendEntry_20 rfl ?_
  refine e_get dd_Pk_appendEntry_21 kf_Pk_27 h6 rfl ?_
  refine e_callVv (d1 := rr_WF_appendLengthsAndCheck) (As := [.ref 38]) (st := []) dd_Pk_appendEntry_24 km_Pk_49 ho rfl (by decide) rfl (Nat.le_of_ble_eq_true rfl) (Nat.le_of_ble_eq_true rfl) rfl rfl (c_WF_appendLengthsAndCheck h2 hi hn hc k2.2 (by omega)) (fun w3 k3 => ?_)
  exact e_vret dd_Pk_appendEntry_27 rfl (pV_of ⟨k1.1.tr (k2.1.tr k3.1), by have k4 := k3.2; simpa [ent1] using k4⟩)
end WF
