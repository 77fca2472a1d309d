/-! The reference: its waiting files, what it makes of a file. -/
def mfI (f72 f73 f74 f75 f76 : Nat → Int32) (i : Nat) (f : FW) : Prop := f72 i = nI f.2.1 ∧ f73 i = nI f.1.length ∧ f75 i = nI f.2.2.length ∧ (∀ j, j < f.1.length → f74 (8 * i + j) = nI (f.1.getD j 0)) ∧ ∀ j, j < f.2.2.length → f76 (60 * i + j) = nI (f.2.2.getD j 0)
def mC5 (w : ab_W) (f72 f73 f74 f75 f76 : Nat → Int32) : Prop := w.1 72 = some (.inl (0, 6, .inl f72)) ∧ w.1 73 = some (.inl (0, 6, .inl f73)) ∧ w.1 74 = some (.inl (0, 48, .inl f74)) ∧ w.1 75 = some (.inl (0, 6, .inl f75)) ∧ w.1 76 = some (.inl (0, 360, .inl f76))
def mFi (w : ab_W) (i : Nat) (f : FW) : Prop := i < 6 ∧ fwOK f ∧ ∃ f72 f73 f74 f75 f76, mC5 w f72 f73 f74 f75 f76 ∧ mfI f72 f73 f74 f75 f76 i f
theorem mC5.keep {w w2 : ab_W} {f72 f73 f74 f75 f76 : Nat → Int32} (h : mC5 w f72 f73 f74 f75 f76) (hf : ∀ j, 72 ≤ j → j < 77 → w2.1 j = w.1 j) : mC5 w2 f72 f73 f74 f75 f76 := ⟨(hf _ (by decide) (by decide)).trans h.1, (hf _ (by decide) (by decide)).trans h.2.1, (hf _ (by decide) (by decide)).trans h.2.2.1, (hf _ (by decide) (by decide)).trans h.2.2.2.1, (hf _ (by decide) (by decide)).trans h.2.2.2.2⟩
theorem mFi.fr {w w2 : ab_W} {i a : Nat} {f : FW} (h : mFi w i f) (hS : rS w w2 69 a) (ha : 77 ≤ a) : mFi w2 i f := by
  obtain ⟨h1, h2, f72, f73, f74, f75, f76, h3, h4⟩ := h
  exact ⟨h1, h2, f72, f73, f74, f75, f76, h3.keep (fun j a1 a2 => hS.2 j (by omega) (by omega)), h4⟩
section MD
variable {G : ab_G} {w : ab_W} {nl dl fl ln md op pl tk rq : Int32} {xs ds : List Nat} {i : Nat} {f : FW}
set_option maxRecDepth 100000 in
set_option maxHeartbeats 4000000 in
theorem c_Md_byteOf (h : mO w nl dl fl ln md op pl tk rq) (hF : mFi w i f) (x : Int32) : ab_E G mm_Md_byteOf rr_Md_byteOf 0 [(0, .ref 69), (1, .int (nI i)), (2, .int x)] [] w (pP (rbI f.2.2 x) w) := by
  have h69 : w.1 69 = _ := h
  obtain ⟨hi6, hok, f72, f73, f74, f75, f76, ⟨h72, h73, h74, h75, h76⟩, hm, hn, hd, hnb, hdb⟩ := id hF
  have hl60 := hok.2.2.2.1
  refine e_iload_n dd_Md_byteOf_0 rfl ?_
  refine e_if_lt (tgt := 28) dd_Md_byteOf_1 (by decide) (fun c1 => ?_) (fun c1 => ?_)
  · refine e_iconst (v := -1) dd_Md_byteOf_28 (by decide) ?_
    exact e_iret dd_Md_byteOf_29 rfl (pP_of (by rw [rbI, if_pos c1]))
  · obtain ⟨j, hj, rfl, ej⟩ := nI_self c1
    rw [rbI, if_neg c1, ej]
    refine e_iload_n dd_Md_byteOf_4 rfl ?_
    refine e_aload_n dd_Md_byteOf_5 rfl ?_
    refine e_get dd_Md_byteOf_6 kf_Md_25 h69 rfl ?_
    refine e_iload_n dd_Md_byteOf_9 rfl ?_
    refine e_iald dd_Md_byteOf_10 h75 rfl rfl (by omega) (by decide) ?_
    refine e_top (y := nI f.2.2.length) hd ?_
    refine e_icmp_ge_n (tgt := 28) dd_Md_byteOf_11 (by decide) (by omega) (by omega) (fun c11 => ?_) (fun c11 => ?_)
    · refine e_iconst (v := -1) dd_Md_byteOf_28 (by decide) ?_
      exact e_iret dd_Md_byteOf_29 rfl (pP_of (rb_out c11).symm)
    · refine e_aload_n dd_Md_byteOf_14 rfl ?_
      refine e_get dd_Md_byteOf_15 kf_Md_28 h69 rfl ?_
      refine e_bipush_n 60 dd_Md_byteOf_18 (by decide) ?_
      refine e_iload_n dd_Md_byteOf_20 rfl ?_
      refine e_imul_n dd_Md_byteOf_21 ?_
      refine e_iload_n dd_Md_byteOf_22 rfl ?_
      refine e_iadd_n dd_Md_byteOf_23 ?_
      refine e_iald dd_Md_byteOf_24 h76 rfl rfl (by omega) (by decide) ?_
      refine e_top (y := nI (f.2.2.getD j 0)) (hdb j c11) ?_
      refine e_goto (tgt := 29) dd_Md_byteOf_25 (by decide) ?_
      exact e_iret dd_Md_byteOf_29 rfl (pP_of (rb_in c11).symm)
set_option maxRecDepth 100000 in
set_option maxHeartbeats 4000000 in
theorem c_Md_byteOfn (h : mO w nl dl fl ln md op pl tk rq) (hF : mFi w i f) {j : Nat} (hj : j < 2 ^ 31) : ab_E G mm_Md_byteOf rr_Md_byteOf 0 [(0, .ref 69), (1, .int (nI i)), (2, .int (nI j))] [] w (pP (rb f.2.2 j) w) := by
  rw [← rbI_n hj]
  exact c_Md_byteOf h hF _
set_option maxRecDepth 100000 in
set_option maxHeartbeats 4000000 in
theorem c_Md_byteOfi (h : mO w nl dl fl ln md op pl tk rq) (hF : mFi w i f) {j : Nat} (hj : j < f.2.2.length) : ab_E G mm_Md_byteOf rr_Md_byteOf 0 [(0, .ref 69), (1, .int (nI i)), (2, .int (nI j))] [] w (pP (nI (f.2.2.getD j 0)) w) := by
  have hl60 := hF.2.1.2.2.2.1
  rw [← rb_in hj]
  exact c_Md_byteOfn h hF (by omega)
set_option maxRecDepth 100000 in
set_option maxHeartbeats 4000000 in
theorem l_Md_checkOf (h : mO w nl dl fl ln md op pl tk rq) (hF : mFi w i f) : ∀ (n j c : Nat), j + n = f.2.2.length → c < 65536 → ab_E G mm_Md_checkOf rr_Md_checkOf 5 [(0, .ref 69), (1, .int (nI i)), (2, .int (nI c)), (3, .int (nI j))] [] w (pP (nI (cN f.2.2 c j n)) w) := by
  have h69 : w.1 69 = _ := h
  obtain ⟨hi6, hok, f72, f73, f74, f75, f76, ⟨h72, h73, h74, h75, h76⟩, hm, hn, hd, hnb, hdb⟩ := id hF
  have hl60 := hok.2.2.2.1
  have hby := hok.2.2.2.2.2
  intro n
  induction n with
  | zero =>
    intro j c hj hc
    refine e_iload_n dd_Md_checkOf_5 rfl ?_
    refine e_aload_n dd_Md_checkOf_6 rfl ?_
    refine e_get dd_Md_checkOf_7 kf_Md_25 h69 rfl ?_
    refine e_iload_n dd_Md_checkOf_10 rfl ?_
    refine e_iald dd_Md_checkOf_11 h75 rfl rfl (by omega) (by decide) ?_
    refine e_top (y := nI f.2.2.length) hd ?_
    refine e_icmp_ge_n (tgt := 32) dd_Md_checkOf_12 (by decide) (by omega) (by omega) (fun _ => ?_) (fun h9 => absurd h9 (by omega))
    refine e_iload_n dd_Md_checkOf_32 rfl ?_
    exact e_iret dd_Md_checkOf_33 rfl (pP_of rfl)
  | succ n ih =>
    intro j c hj hc
    refine e_iload_n dd_Md_checkOf_5 rfl ?_
    refine e_aload_n dd_Md_checkOf_6 rfl ?_
    refine e_get dd_Md_checkOf_7 kf_Md_25 h69 rfl ?_
    refine e_iload_n dd_Md_checkOf_10 rfl ?_
    refine e_iald dd_Md_checkOf_11 h75 rfl rfl (by omega) (by decide) ?_
    refine e_top (y := nI f.2.2.length) hd ?_
    refine e_icmp_ge_n (tgt := 32) dd_Md_checkOf_12 (by decide) (by omega) (by omega) (fun h9 => absurd h9 (by omega)) (fun _ => ?_)
    refine e_iload_n dd_Md_checkOf_15 rfl ?_
    refine e_aload_n dd_Md_checkOf_16 rfl ?_
    refine e_iload_n dd_Md_checkOf_17 rfl ?_
    refine e_iload_n dd_Md_checkOf_18 rfl ?_
    refine e_callVp (d1 := rr_Md_byteOf) (As := [.int (nI i), .int (nI j)]) (st := [.int (nI c)]) dd_Md_checkOf_19 km_Md_70 h69 rfl (by decide) rfl (Nat.le_of_ble_eq_true rfl) (Nat.le_of_ble_eq_true rfl) rfl rfl (c_Md_byteOfi h hF (by omega)) ?_
    refine e_callSp (d1 := rr_Md_checked) (As := [.int (nI c), .int (nI (f.2.2.getD j 0))]) (st := []) dd_Md_checkOf_22 km_Md_93 (by decide) rfl (Nat.le_of_ble_eq_true rfl) (Nat.le_of_ble_eq_true rfl) rfl rfl (c_Md_checked hc (getD_lt hby (by omega))) ?_
    refine e_istore_n (lv1 := [(0, .ref 69), (1, .int (nI i)), (2, .int (nI (c1 c (f.2.2.getD j 0)))), (3, .int (nI j))]) dd_Md_checkOf_25 (by decide) rfl ?_
    refine e_iinc_n (a := j) (k := 1) (lv1 := [(0, .ref 69), (1, .int (nI i)), (2, .int (nI (c1 c (f.2.2.getD j 0)))), (3, .int (nI (j + 1)))]) dd_Md_checkOf_26 rfl (by decide) (by decide) rfl ?_
    refine e_goto (tgt := 5) dd_Md_checkOf_29 (by decide) ?_
    exact ih (j + 1) _ (by omega) (c1_lt hc)
set_option maxRecDepth 100000 in
set_option maxHeartbeats 4000000 in
theorem c_Md_checkOf (h : mO w nl dl fl ln md op pl tk rq) (hF : mFi w i f) : ab_E G mm_Md_checkOf rr_Md_checkOf 0 [(0, .ref 69), (1, .int (nI i))] [] w (pP (nI (crc f.2.2)) w) := by
  rw [← crc_N]
  refine e_ldc (v := 65535) dd_Md_checkOf_0 ww_606 ?_
  refine e_top (y := nI 65535) (by decide) ?_
  refine e_istore_n (lv1 := [(0, .ref 69), (1, .int (nI i)), (2, .int (nI 65535))]) dd_Md_checkOf_2 (by decide) rfl ?_
  refine e_iconst_n 0 dd_Md_checkOf_3 (by decide) ?_
  refine e_istore_n (lv1 := [(0, .ref 69), (1, .int (nI i)), (2, .int (nI 65535)), (3, .int (nI 0))]) dd_Md_checkOf_4 (by decide) rfl ?_
  exact l_Md_checkOf h hF _ 0 65535 (by omega) (by decide)
set_option maxRecDepth 100000 in
set_option maxHeartbeats 4000000 in
theorem l_Md_sayHead {ds0 : List Nat} (hF : mFi w i f) (hl : ds0.length + f.1.length ≤ 1200) : ∀ (k j : Nat) (w1 : ab_W), j + k = f.1.length → mO w1 nl dl fl ln (nI (ds0 ++ f.1.take j).length) op pl tk rq → mA w1 78 1200 (ds0 ++ f.1.take j) → rS w w1 69 78 → ab_E G mm_Md_sayHead rr_Md_sayHead 22 [(0, .ref 69), (1, .int (nI i)), (2, .int (nI j))] [] w1 (pV fun w2 => rS w w2 69 78 ∧ mO w2 nl dl fl ln (nI (ds0 ++ f.1).length) op pl tk rq ∧ mA w2 78 1200 (ds0 ++ f.1)) := by
  intro k
  induction k with
  | zero =>
    intro j w1 hj h hA hS
    have hF := hF.fr hS (by decide)
    have e0 : f.1.take j = f.1 := List.take_of_length_le (by omega)
    have h69 : w1.1 69 = _ := h
    obtain ⟨hi6, hok, f72, f73, f74, f75, f76, ⟨h72, h73, h74, h75, h76⟩, hm, hn, hd, hnb, hdb⟩ := id hF
    have hl60 := hok.2.2.2.1
    have hl8 := hok.2.1
    refine e_iload_n dd_Md_sayHead_22 rfl ?_
    refine e_aload_n dd_Md_sayHead_23 rfl ?_
    refine e_get dd_Md_sayHead_24 kf_Md_19 h69 rfl ?_
    refine e_iload_n dd_Md_sayHead_27 rfl ?_
    refine e_iald dd_Md_sayHead_28 h73 rfl rfl (by omega) (by decide) ?_
    refine e_top (y := nI f.1.length) hn ?_
    refine e_icmp_ge_n (tgt := 53) dd_Md_sayHead_29 (by decide) (by omega) (by omega) (fun _ => ?_) (fun h9 => absurd h9 (by omega))
    rw [e0] at h hA
    exact e_vret dd_Md_sayHead_53 rfl (pV_of ⟨hS, h, hA⟩)
  | succ k ih =>
    intro j w1 hj h hA hS
    have hF := hF.fr hS (by decide)
    have h69 : w1.1 69 = _ := h
    obtain ⟨hi6, hok, f72, f73, f74, f75, f76, ⟨h72, h73, h74, h75, h76⟩, hm, hn, hd, hnb, hdb⟩ := id hF
    have hl60 := hok.2.2.2.1
    have hl8 := hok.2.1
    have hjl : j < f.1.length := by omega
    refine e_iload_n dd_Md_sayHead_22 rfl ?_
    refine e_aload_n dd_Md_sayHead_23 rfl ?_
    refine e_get dd_Md_sayHead_24 kf_Md_19 h69 rfl ?_
    refine e_iload_n dd_Md_sayHead_27 rfl ?_
    refine e_iald dd_Md_sayHead_28 h73 rfl rfl (by omega) (by decide) ?_
    refine e_top (y := nI f.1.length) hn ?_
    refine e_icmp_ge_n (tgt := 53) dd_Md_sayHead_29 (by decide) (by omega) (by omega) (fun h9 => absurd h9 (by omega)) (fun _ => ?_)
    refine e_aload_n dd_Md_sayHead_32 rfl ?_
    refine e_aload_n dd_Md_sayHead_33 rfl ?_
    refine e_get dd_Md_sayHead_34 kf_Md_22 h69 rfl ?_
    refine e_bipush_n 8 dd_Md_sayHead_37 (by decide) ?_
    refine e_iload_n dd_Md_sayHead_39 rfl ?_
    refine e_imul_n dd_Md_sayHead_40 ?_
    refine e_iload_n dd_Md_sayHead_41 rfl ?_
    refine e_iadd_n dd_Md_sayHead_42 ?_
    refine e_iald dd_Md_sayHead_43 h74 rfl rfl (by omega) (by decide) ?_
    refine e_top (y := nI (f.1.getD j 0)) (hnb j hjl) ?_
    refine e_callVv (d1 := rr_Md_say) (As := [.int (nI (f.1.getD j 0))]) (st := []) dd_Md_sayHead_44 km_Md_99 h69 rfl (by decide) rfl (Nat.le_of_ble_eq_true rfl) (Nat.le_of_ble_eq_true rfl) rfl rfl (c_Md_say h hA (getD_lt hok.2.2.2.2.1 hjl) (by rw [List.length_append, List.length_take]; omega)) (fun v1 k1 => ?_)
    refine e_iinc_n (a := j) (k := 1) (lv1 := [(0, .ref 69), (1, .int (nI i)), (2, .int (nI (j + 1)))]) dd_Md_sayHead_47 rfl (by decide) (by decide) rfl ?_
    refine e_goto (tgt := 22) dd_Md_sayHead_50 (by decide) ?_
    have e1 : ds0 ++ f.1.take j ++ [f.1.getD j 0] = ds0 ++ f.1.take (j + 1) := by
      rw [List.append_assoc, take_snoc (f := f.1.getD j 0) (by rw [List.getD_eq_getElem?_getD, List.getElem?_eq_getElem hjl]; rfl)]
    rw [e1] at k1
    exact ih (j + 1) v1 (by omega) k1.2.1 k1.2.2 (hS.tr k1.1)
set_option maxRecDepth 100000 in
set_option maxHeartbeats 4000000 in
theorem c_Md_sayHead (h : mO w nl dl fl ln (nI ds.length) op pl tk rq) (hA : mA w 78 1200 ds) (hF : mFi w i f) (hl : ds.length + 2 + f.1.length ≤ 1200) : ab_E G mm_Md_sayHead rr_Md_sayHead 0 [(0, .ref 69), (1, .int (nI i))] [] w (pV fun w2 => rS w w2 69 78 ∧ mO w2 nl dl fl ln (nI (ds ++ ([f.2.1, f.1.length] ++ f.1)).length) op pl tk rq ∧ mA w2 78 1200 (ds ++ ([f.2.1, f.1.length] ++ f.1))) := by
  have h69 : w.1 69 = _ := h
  obtain ⟨hi6, hok, f72, f73, f74, f75, f76, ⟨h72, h73, h74, h75, h76⟩, hm, hn, hd, hnb, hdb⟩ := id hF
  have hl60 := hok.2.2.2.1
  have hm2 := hok.2.2.1
  have hl8 := hok.2.1
  refine e_aload_n dd_Md_sayHead_0 rfl ?_
  refine e_aload_n dd_Md_sayHead_1 rfl ?_
  refine e_get dd_Md_sayHead_2 kf_Md_16 h69 rfl ?_
  refine e_iload_n dd_Md_sayHead_5 rfl ?_
  refine e_iald dd_Md_sayHead_6 h72 rfl rfl (by omega) (by decide) ?_
  refine e_top (y := nI f.2.1) hm ?_
  refine e_callVv (d1 := rr_Md_say) (As := [.int (nI f.2.1)]) (st := []) dd_Md_sayHead_7 km_Md_99 h69 rfl (by decide) rfl (Nat.le_of_ble_eq_true rfl) (Nat.le_of_ble_eq_true rfl) rfl rfl (c_Md_say h hA (by omega) (by omega)) (fun v1 k1 => ?_)
  obtain ⟨k1s, k1o, k1a⟩ := k1
  have h69b : v1.1 69 = _ := k1o
  have h73b := (k1s.2 73 (by decide) (by decide)).trans h73
  refine e_aload_n dd_Md_sayHead_10 rfl ?_
  refine e_aload_n dd_Md_sayHead_11 rfl ?_
  refine e_get dd_Md_sayHead_12 kf_Md_19 h69b rfl ?_
  refine e_iload_n dd_Md_sayHead_15 rfl ?_
  refine e_iald dd_Md_sayHead_16 h73b rfl rfl (by omega) (by decide) ?_
  refine e_top (y := nI f.1.length) hn ?_
  refine e_callVv (d1 := rr_Md_say) (As := [.int (nI f.1.length)]) (st := []) dd_Md_sayHead_17 km_Md_99 h69b rfl (by decide) rfl (Nat.le_of_ble_eq_true rfl) (Nat.le_of_ble_eq_true rfl) rfl rfl (c_Md_say k1o k1a (by omega) (by simp; omega)) (fun v2 k2 => ?_)
  refine e_iconst_n 0 dd_Md_sayHead_20 (by decide) ?_
  refine e_istore_n (lv1 := [(0, .ref 69), (1, .int (nI i)), (2, .int (nI 0))]) dd_Md_sayHead_21 (by decide) rfl ?_
  obtain ⟨k2s, k2o, k2a⟩ := k2
  have e1 : ds ++ ([f.2.1, f.1.length] ++ f.1) = ds ++ [f.2.1] ++ [f.1.length] ++ f.1 := by simp
  rw [e1]
  exact l_Md_sayHead (ds0 := ds ++ [f.2.1] ++ [f.1.length]) hF (by simp; omega) f.1.length 0 v2 (by omega) (by simpa using k2o) (by simpa using k2a) (k1s.tr k2s)
set_option maxRecDepth 100000 in
set_option maxHeartbeats 4000000 in
theorem l_Md_run {p v : Nat} {P : Option Value → ab_W → Prop} (h : mO w nl dl fl ln md op pl tk rq) (hF : mFi w i f) (hv : v < 256) (hp : p < 100000) (R : Nat) (K : ab_E G mm_Md_runs rr_Md_runs 48 [(0, .ref 69), (1, .int (nI i)), (2, .int (nI p)), (3, .int (nI v)), (4, .int (nI R))] [] w P) : ∀ k n, n + k = 9 → rl f.2.2 p v k n = R → ab_E G mm_Md_runs rr_Md_runs 22 [(0, .ref 69), (1, .int (nI i)), (2, .int (nI p)), (3, .int (nI v)), (4, .int (nI n))] [] w P := by
  have h69 : w.1 69 = _ := h
  obtain ⟨hi6, hok, f72, f73, f74, f75, f76, ⟨h72, h73, h74, h75, h76⟩, hm, hn, hd, hnb, hdb⟩ := id hF
  have hl60 := hok.2.2.2.1
  have hby := hok.2.2.2.2.2
  intro k
  induction k with
  | zero =>
    intro n hn0 hR
    cases (show n = R from hR)
    refine e_iload dd_Md_runs_22 rfl ?_
    refine e_bipush_n 9 dd_Md_runs_24 (by decide) ?_
    refine e_icmp_ge_n (tgt := 48) dd_Md_runs_26 (by decide) (by omega) (by omega) (fun _ => ?_) (fun h9 => absurd h9 (by omega))
    exact K
  | succ k ih =>
    intro n hn0 hR
    refine e_iload dd_Md_runs_22 rfl ?_
    refine e_bipush_n 9 dd_Md_runs_24 (by decide) ?_
    refine e_icmp_ge_n (tgt := 48) dd_Md_runs_26 (by decide) (by omega) (by omega) (fun h9 => absurd h9 (by omega)) (fun _ => ?_)
    refine e_aload_n dd_Md_runs_29 rfl ?_
    refine e_iload_n dd_Md_runs_30 rfl ?_
    refine e_iload_n dd_Md_runs_31 rfl ?_
    refine e_iload dd_Md_runs_32 rfl ?_
    refine e_iadd_n dd_Md_runs_34 ?_
    refine e_callVp (d1 := rr_Md_byteOf) (As := [.int (nI i), .int (nI (p + n))]) (st := []) dd_Md_runs_35 km_Md_70 h69 rfl (by decide) rfl (Nat.le_of_ble_eq_true rfl) (Nat.le_of_ble_eq_true rfl) rfl rfl (c_Md_byteOfn h hF (by omega)) ?_
    by_cases c : p + n < f.2.2.length
    · have hb := getD_lt hby c
      refine e_top (y := nI (f.2.2.getD (p + n) 0)) (rb_in c) ?_
      refine e_iload_n dd_Md_runs_38 rfl ?_
      refine e_icmp_ne_n (tgt := 48) dd_Md_runs_39 (by decide) (by omega) (by omega) (fun c39 => ?_) (fun c39 => ?_)
      · have hR2 : n = R := by
          rw [rl, if_neg (fun h9 => c39 h9.2)] at hR
          exact hR
        cases hR2
        exact K
      · refine e_iinc_n (a := n) (k := 1) (lv1 := [(0, .ref 69), (1, .int (nI i)), (2, .int (nI p)), (3, .int (nI v)), (4, .int (nI (n + 1)))]) dd_Md_runs_42 rfl (by decide) (by decide) rfl ?_
        refine e_goto (tgt := 22) dd_Md_runs_45 (by decide) ?_
        rw [rl, if_pos ⟨c, c39⟩] at hR
        exact ih (n + 1) (by omega) hR
    · refine e_top (y := (-1)) (rb_out (by omega)) ?_
      refine e_iload_n dd_Md_runs_38 rfl ?_
      refine e_icmp_ne (tgt := 48) dd_Md_runs_39 (by decide) (fun _ => ?_) (fun h9 => absurd h9 (neg1_ne (by omega)))
      have hR2 : n = R := by
        rw [rl, if_neg (fun h9 => c h9.1)] at hR
        exact hR
      cases hR2
      exact K
set_option maxRecDepth 100000 in
set_option maxHeartbeats 4000000 in
theorem l_Md_pushes {p v n t M : Nat} {P : Option Value → ab_W → Prop} (hv : v < 256) (hn : n ≤ 9) (ht : t ≤ 1) (hM1 : t = 0 → M = 1) (hM2 : 0 < t → M = n) : ∀ (m j : Nat) (w1 : ab_W) (acc : List Nat), j + m = M → acc.length + m ≤ 400 → mO w1 nl dl fl ln md op pl tk (nI acc.length) → mA w1 81 400 acc → (∀ w2, rS w1 w2 69 81 → mO w2 nl dl fl ln md op pl tk (nI (acc ++ List.replicate m v).length) → mA w2 81 400 (acc ++ List.replicate m v) → ab_E G mm_Md_runs rr_Md_runs 113 [(0, .ref 69), (1, .int (nI i)), (2, .int (nI p)), (3, .int (nI v)), (4, .int (nI n)), (5, .int (nI t)), (6, .int (nI M))] [] w2 P) → ab_E G mm_Md_runs rr_Md_runs 86 [(0, .ref 69), (1, .int (nI i)), (2, .int (nI p)), (3, .int (nI v)), (4, .int (nI n)), (5, .int (nI t)), (6, .int (nI j))] [] w1 P := by
  intro m
  induction m with
  | zero =>
    intro j w1 acc hj hl h hA K
    have e0 : j = M := by omega
    subst e0
    have K := K w1 rS.rf (by simpa using h) (by simpa using hA)
    refine e_iload dd_Md_runs_86 rfl ?_
    refine e_iload dd_Md_runs_88 rfl ?_
    refine e_if_eq_n (tgt := 98) dd_Md_runs_90 (by decide) (by omega) (fun c90 => ?_) (fun c90 => ?_)
    · refine e_iconst_n 1 dd_Md_runs_98 (by decide) ?_
      refine e_icmp_ge_n (tgt := 113) dd_Md_runs_99 (by decide) (by omega) (by omega) (fun _ => ?_) (fun h9 => absurd h9 (by omega))
      exact K
    · refine e_iload dd_Md_runs_93 rfl ?_
      refine e_goto (tgt := 99) dd_Md_runs_95 (by decide) ?_
      refine e_icmp_ge_n (tgt := 113) dd_Md_runs_99 (by decide) (by omega) (by omega) (fun _ => ?_) (fun h9 => absurd h9 (by omega))
      exact K
  | succ m ih =>
    intro j w1 acc hj hl h hA K
    have h69 : w1.1 69 = _ := h
    have e1 : ∀ k, acc ++ [v] ++ List.replicate k v = acc ++ List.replicate (k + 1) v := fun k => by rw [List.append_assoc, List.replicate_succ]; rfl
    refine e_iload dd_Md_runs_86 rfl ?_
    refine e_iload dd_Md_runs_88 rfl ?_
    refine e_if_eq_n (tgt := 98) dd_Md_runs_90 (by decide) (by omega) (fun c90 => ?_) (fun c90 => ?_)
    · refine e_iconst_n 1 dd_Md_runs_98 (by decide) ?_
      refine e_icmp_ge_n (tgt := 113) dd_Md_runs_99 (by decide) (by omega) (by omega) (fun h9 => absurd h9 (by omega)) (fun _ => ?_)
      refine e_aload_n dd_Md_runs_102 rfl ?_
      refine e_iload_n dd_Md_runs_103 rfl ?_
      refine e_callVv (d1 := rr_Md_push) (As := [.int (nI v)]) (st := []) dd_Md_runs_104 km_Md_74 h69 rfl (by decide) rfl (Nat.le_of_ble_eq_true rfl) (Nat.le_of_ble_eq_true rfl) rfl rfl (c_Md_push h hA hv (by omega)) (fun v1 k1 => ?_)
      refine e_iinc_n (a := j) (k := 1) (lv1 := [(0, .ref 69), (1, .int (nI i)), (2, .int (nI p)), (3, .int (nI v)), (4, .int (nI n)), (5, .int (nI t)), (6, .int (nI (j + 1)))]) dd_Md_runs_107 rfl (by decide) (by decide) rfl ?_
      refine e_goto (tgt := 86) dd_Md_runs_110 (by decide) ?_
      exact ih (j + 1) v1 (acc ++ [v]) (by omega) (by simp; omega) k1.2.1 k1.2.2 (fun w2 q1 q2 q3 => K w2 (k1.1.tr q1) (by rw [← e1]; exact q2) (by rw [← e1]; exact q3))
    · refine e_iload dd_Md_runs_93 rfl ?_
      refine e_goto (tgt := 99) dd_Md_runs_95 (by decide) ?_
      refine e_icmp_ge_n (tgt := 113) dd_Md_runs_99 (by decide) (by omega) (by omega) (fun h9 => absurd h9 (by omega)) (fun _ => ?_)
      refine e_aload_n dd_Md_runs_102 rfl ?_
      refine e_iload_n dd_Md_runs_103 rfl ?_
      refine e_callVv (d1 := rr_Md_push) (As := [.int (nI v)]) (st := []) dd_Md_runs_104 km_Md_74 h69 rfl (by decide) rfl (Nat.le_of_ble_eq_true rfl) (Nat.le_of_ble_eq_true rfl) rfl rfl (c_Md_push h hA hv (by omega)) (fun v1 k1 => ?_)
      refine e_iinc_n (a := j) (k := 1) (lv1 := [(0, .ref 69), (1, .int (nI i)), (2, .int (nI p)), (3, .int (nI v)), (4, .int (nI n)), (5, .int (nI t)), (6, .int (nI (j + 1)))]) dd_Md_runs_107 rfl (by decide) (by decide) rfl ?_
      refine e_goto (tgt := 86) dd_Md_runs_110 (by decide) ?_
      exact ih (j + 1) v1 (acc ++ [v]) (by omega) (by simp; omega) k1.2.1 k1.2.2 (fun w2 q1 q2 q3 => K w2 (k1.1.tr q1) (by rw [← e1]; exact q2) (by rw [← e1]; exact q3))
set_option maxRecDepth 100000 in
set_option maxHeartbeats 4000000 in
theorem l_Md_runs (hF : mFi w i f) (tot : List Nat) (htot : tot.length ≤ 400) : ∀ (k p : Nat) (w1 : ab_W) (acc : List Nat), f.2.2.length ≤ p + k → acc ++ rnF f.2.2 k p = tot → p ≤ f.2.2.length → rS w w1 69 81 → mO w1 nl dl fl ln md op pl tk (nI acc.length) → mA w1 81 400 acc → ab_E G mm_Md_runs rr_Md_runs 2 [(0, .ref 69), (1, .int (nI i)), (2, .int (nI p))] [] w1 (pV fun w2 => rS w w2 69 81 ∧ mO w2 nl dl fl ln md op pl tk (nI tot.length) ∧ mA w2 81 400 tot) := by
  intro k
  induction k with
  | zero =>
    intro p w1 acc hk ht hp hS h hA
    have hF := hF.fr hS (by decide)
    have h69 : w1.1 69 = _ := h
    obtain ⟨hi6, hok, f72, f73, f74, f75, f76, ⟨h72, h73, h74, h75, h76⟩, hm, hn, hd, hnb, hdb⟩ := id hF
    have hl60 := hok.2.2.2.1
    refine e_iload_n dd_Md_runs_2 rfl ?_
    refine e_aload_n dd_Md_runs_3 rfl ?_
    refine e_get dd_Md_runs_4 kf_Md_25 h69 rfl ?_
    refine e_iload_n dd_Md_runs_7 rfl ?_
    refine e_iald dd_Md_runs_8 h75 rfl rfl (by omega) (by decide) ?_
    refine e_top (y := nI f.2.2.length) hd ?_
    refine e_icmp_ge_n (tgt := 121) dd_Md_runs_9 (by decide) (by omega) (by omega) (fun _ => ?_) (fun h9 => absurd h9 (by omega))
    rw [rnF, List.append_nil] at ht
    subst ht
    exact e_vret dd_Md_runs_121 rfl (pV_of ⟨hS, h, hA⟩)
  | succ k ih =>
    intro p w1 acc hk ht hp hS h hA
    have hF := hF.fr hS (by decide)
    have h69 : w1.1 69 = _ := h
    obtain ⟨hi6, hok, f72, f73, f74, f75, f76, ⟨h72, h73, h74, h75, h76⟩, hm, hn, hd, hnb, hdb⟩ := id hF
    have hl60 := hok.2.2.2.1
    have hby := hok.2.2.2.2.2
    refine e_iload_n dd_Md_runs_2 rfl ?_
    refine e_aload_n dd_Md_runs_3 rfl ?_
    refine e_get dd_Md_runs_4 kf_Md_25 h69 rfl ?_
    refine e_iload_n dd_Md_runs_7 rfl ?_
    refine e_iald dd_Md_runs_8 h75 rfl rfl (by omega) (by decide) ?_
    refine e_top (y := nI f.2.2.length) hd ?_
    refine e_icmp_ge_n (tgt := 121) dd_Md_runs_9 (by decide) (by omega) (by omega) (fun c9 => ?_) (fun c9 => ?_)
    · rw [rnF, if_neg (by omega), List.append_nil] at ht
      subst ht
      exact e_vret dd_Md_runs_121 rfl (pV_of ⟨hS, h, hA⟩)
    · refine e_aload_n dd_Md_runs_12 rfl ?_
      refine e_iload_n dd_Md_runs_13 rfl ?_
      refine e_iload_n dd_Md_runs_14 rfl ?_
      refine e_callVp (d1 := rr_Md_byteOf) (As := [.int (nI i), .int (nI p)]) (st := []) dd_Md_runs_15 km_Md_70 h69 rfl (by decide) rfl (Nat.le_of_ble_eq_true rfl) (Nat.le_of_ble_eq_true rfl) rfl rfl (c_Md_byteOfi h hF c9) ?_
      refine e_istore_n (lv1 := [(0, .ref 69), (1, .int (nI i)), (2, .int (nI p)), (3, .int (nI (f.2.2.getD p 0)))]) dd_Md_runs_18 (by decide) rfl ?_
      refine e_iconst_n 1 dd_Md_runs_19 (by decide) ?_
      refine e_istore (lv1 := [(0, .ref 69), (1, .int (nI i)), (2, .int (nI p)), (3, .int (nI (f.2.2.getD p 0))), (4, .int (nI 1))]) dd_Md_runs_20 (by decide) rfl ?_
      rw [rnF, if_pos c9, ← List.append_assoc] at ht
      have hv := getD_lt hby c9
      generalize f.2.2.getD p 0 = v at hv ht ⊢
      obtain ⟨r1, r2, r3⟩ := rl_le f.2.2 p v 8 1
      have r3 := r3 (by omega)
      generalize hR : rl f.2.2 p v 8 1 = n at r1 r2 r3 ht
      have htl := congrArg List.length ht
      rw [List.length_append, List.length_append] at htl
      refine l_Md_run h hF hv (by omega) n ?_ 8 1 (by decide) hR
      refine e_iload dd_Md_runs_48 rfl ?_
      refine e_iconst_n 3 dd_Md_runs_50 (by decide) ?_
      refine e_icmp_ge_n (tgt := 65) dd_Md_runs_51 (by decide) (by omega) (by omega) (fun c51 => ?_) (fun c51 => ?_)
      · refine e_iconst_n 0 dd_Md_runs_65 (by decide) ?_
        refine e_istore (lv1 := [(0, .ref 69), (1, .int (nI i)), (2, .int (nI p)), (3, .int (nI v)), (4, .int (nI n)), (5, .int (nI 0))]) dd_Md_runs_66 (by decide) rfl ?_
        refine e_iload dd_Md_runs_68 rfl ?_
        refine e_if_ne_n (tgt := 83) dd_Md_runs_70 (by decide) (by omega) (fun h9 => absurd h9 (by decide)) (fun _ => ?_)
        refine e_aload_n dd_Md_runs_73 rfl ?_
        refine e_sipush_n 246 dd_Md_runs_74 (by decide) ?_
        refine e_iload dd_Md_runs_77 rfl ?_
        refine e_iadd_n dd_Md_runs_79 ?_
        have er : rn1 n v = [246 + n, v] := if_neg (by omega)
        rw [er] at htl ht
        have hl2 : [246 + n, v].length = 2 := rfl
        refine e_callVv (d1 := rr_Md_push) (As := [.int (nI (246 + n))]) (st := []) dd_Md_runs_80 km_Md_74 h69 rfl (by decide) rfl (Nat.le_of_ble_eq_true rfl) (Nat.le_of_ble_eq_true rfl) rfl rfl (c_Md_push h hA (by omega) (by omega)) (fun v1 k1 => ?_)
        refine e_iconst_n 0 dd_Md_runs_83 (by decide) ?_
        refine e_istore (lv1 := [(0, .ref 69), (1, .int (nI i)), (2, .int (nI p)), (3, .int (nI v)), (4, .int (nI n)), (5, .int (nI 0)), (6, .int (nI 0))]) dd_Md_runs_84 (by decide) rfl ?_
        refine l_Md_pushes (n := n) (t := 0) (M := 1) hv (by omega) (by decide) (fun h9 => rfl) (fun h9 => absurd h9 (by decide)) 1 0 v1 (acc ++ [246 + n]) (by omega) (by simp; omega) k1.2.1 k1.2.2 (fun w2 q1 q2 q3 => ?_)
        refine e_iload_n dd_Md_runs_113 rfl ?_
        refine e_iload dd_Md_runs_114 rfl ?_
        refine e_iadd_n dd_Md_runs_116 ?_
        refine e_istore_n (lv1 := [(0, .ref 69), (1, .int (nI i)), (2, .int (nI (p + n))), (3, .int (nI v)), (4, .int (nI n)), (5, .int (nI 0)), (6, .int (nI 1))]) dd_Md_runs_117 (by decide) rfl ?_
        refine e_goto (tgt := 2) dd_Md_runs_118 (by decide) ?_
        refine e_rm (lv1 := [(0, .ref 69), (1, .int (nI i)), (2, .int (nI (p + n))), (3, .int (nI v)), (4, .int (nI n)), (5, .int (nI 0))]) 6 rfl ?_
        refine e_rm (lv1 := [(0, .ref 69), (1, .int (nI i)), (2, .int (nI (p + n))), (3, .int (nI v)), (4, .int (nI n))]) 5 rfl ?_
        refine e_rm (lv1 := [(0, .ref 69), (1, .int (nI i)), (2, .int (nI (p + n))), (3, .int (nI v))]) 4 rfl ?_
        refine e_rm (lv1 := [(0, .ref 69), (1, .int (nI i)), (2, .int (nI (p + n)))]) 3 rfl ?_
        have e1 : acc ++ [246 + n] ++ List.replicate 1 v = acc ++ [246 + n, v] := by simp
        rw [e1] at q2 q3
        exact ih (p + n) w2 (acc ++ [246 + n, v]) (by omega) ht (by omega) (hS.tr (k1.1.tr q1)) q2 q3
      · refine e_iload_n dd_Md_runs_54 rfl ?_
        refine e_sipush_n 246 dd_Md_runs_55 (by decide) ?_
        refine e_icmp_ge_n (tgt := 65) dd_Md_runs_58 (by decide) (by omega) (by omega) (fun c58 => ?_) (fun c58 => ?_)
        · refine e_iconst_n 0 dd_Md_runs_65 (by decide) ?_
          refine e_istore (lv1 := [(0, .ref 69), (1, .int (nI i)), (2, .int (nI p)), (3, .int (nI v)), (4, .int (nI n)), (5, .int (nI 0))]) dd_Md_runs_66 (by decide) rfl ?_
          refine e_iload dd_Md_runs_68 rfl ?_
          refine e_if_ne_n (tgt := 83) dd_Md_runs_70 (by decide) (by omega) (fun h9 => absurd h9 (by decide)) (fun _ => ?_)
          refine e_aload_n dd_Md_runs_73 rfl ?_
          refine e_sipush_n 246 dd_Md_runs_74 (by decide) ?_
          refine e_iload dd_Md_runs_77 rfl ?_
          refine e_iadd_n dd_Md_runs_79 ?_
          have er : rn1 n v = [246 + n, v] := if_neg (by omega)
          rw [er] at htl ht
          have hl2 : [246 + n, v].length = 2 := rfl
          refine e_callVv (d1 := rr_Md_push) (As := [.int (nI (246 + n))]) (st := []) dd_Md_runs_80 km_Md_74 h69 rfl (by decide) rfl (Nat.le_of_ble_eq_true rfl) (Nat.le_of_ble_eq_true rfl) rfl rfl (c_Md_push h hA (by omega) (by omega)) (fun v1 k1 => ?_)
          refine e_iconst_n 0 dd_Md_runs_83 (by decide) ?_
          refine e_istore (lv1 := [(0, .ref 69), (1, .int (nI i)), (2, .int (nI p)), (3, .int (nI v)), (4, .int (nI n)), (5, .int (nI 0)), (6, .int (nI 0))]) dd_Md_runs_84 (by decide) rfl ?_
          refine l_Md_pushes (n := n) (t := 0) (M := 1) hv (by omega) (by decide) (fun h9 => rfl) (fun h9 => absurd h9 (by decide)) 1 0 v1 (acc ++ [246 + n]) (by omega) (by simp; omega) k1.2.1 k1.2.2 (fun w2 q1 q2 q3 => ?_)
          refine e_iload_n dd_Md_runs_113 rfl ?_
          refine e_iload dd_Md_runs_114 rfl ?_
          refine e_iadd_n dd_Md_runs_116 ?_
          refine e_istore_n (lv1 := [(0, .ref 69), (1, .int (nI i)), (2, .int (nI (p + n))), (3, .int (nI v)), (4, .int (nI n)), (5, .int (nI 0)), (6, .int (nI 1))]) dd_Md_runs_117 (by decide) rfl ?_
          refine e_goto (tgt := 2) dd_Md_runs_118 (by decide) ?_
          refine e_rm (lv1 := [(0, .ref 69), (1, .int (nI i)), (2, .int (nI (p + n))), (3, .int (nI v)), (4, .int (nI n)), (5, .int (nI 0))]) 6 rfl ?_
          refine e_rm (lv1 := [(0, .ref 69), (1, .int (nI i)), (2, .int (nI (p + n))), (3, .int (nI v)), (4, .int (nI n))]) 5 rfl ?_
          refine e_rm (lv1 := [(0, .ref 69), (1, .int (nI i)), (2, .int (nI (p + n))), (3, .int (nI v))]) 4 rfl ?_
          refine e_rm (lv1 := [(0, .ref 69), (1, .int (nI i)), (2, .int (nI (p + n)))]) 3 rfl ?_
          have e1 : acc ++ [246 + n] ++ List.replicate 1 v = acc ++ [246 + n, v] := by simp
          rw [e1] at q2 q3
          exact ih (p + n) w2 (acc ++ [246 + n, v]) (by omega) ht (by omega) (hS.tr (k1.1.tr q1)) q2 q3
        · refine e_iconst_n 1 dd_Md_runs_61 (by decide) ?_
          refine e_goto (tgt := 66) dd_Md_runs_62 (by decide) ?_
          refine e_istore (lv1 := [(0, .ref 69), (1, .int (nI i)), (2, .int (nI p)), (3, .int (nI v)), (4, .int (nI n)), (5, .int (nI 1))]) dd_Md_runs_66 (by decide) rfl ?_
          refine e_iload dd_Md_runs_68 rfl ?_
          refine e_if_ne_n (tgt := 83) dd_Md_runs_70 (by decide) (by omega) (fun _ => ?_) (fun h9 => absurd h9 (by decide))
          refine e_iconst_n 0 dd_Md_runs_83 (by decide) ?_
          refine e_istore (lv1 := [(0, .ref 69), (1, .int (nI i)), (2, .int (nI p)), (3, .int (nI v)), (4, .int (nI n)), (5, .int (nI 1)), (6, .int (nI 0))]) dd_Md_runs_84 (by decide) rfl ?_
          have er : rn1 n v = List.replicate n v := if_pos ⟨by omega, by omega⟩
          rw [er] at htl ht
          rw [List.length_replicate] at htl
          refine l_Md_pushes (n := n) (t := 1) (M := n) hv (by omega) (by decide) (fun h9 => absurd h9 (by decide)) (fun h9 => rfl) n 0 w1 acc (by omega) (by omega) h hA (fun w2 q1 q2 q3 => ?_)
          refine e_iload_n dd_Md_runs_113 rfl ?_
          refine e_iload dd_Md_runs_114 rfl ?_
          refine e_iadd_n dd_Md_runs_116 ?_
          refine e_istore_n (lv1 := [(0, .ref 69), (1, .int (nI i)), (2, .int (nI (p + n))), (3, .int (nI v)), (4, .int (nI n)), (5, .int (nI 1)), (6, .int (nI n))]) dd_Md_runs_117 (by decide) rfl ?_
          refine e_goto (tgt := 2) dd_Md_runs_118 (by decide) ?_
          refine e_rm (lv1 := [(0, .ref 69), (1, .int (nI i)), (2, .int (nI (p + n))), (3, .int (nI v)), (4, .int (nI n)), (5, .int (nI 1))]) 6 rfl ?_
          refine e_rm (lv1 := [(0, .ref 69), (1, .int (nI i)), (2, .int (nI (p + n))), (3, .int (nI v)), (4, .int (nI n))]) 5 rfl ?_
          refine e_rm (lv1 := [(0, .ref 69), (1, .int (nI i)), (2, .int (nI (p + n))), (3, .int (nI v))]) 4 rfl ?_
          refine e_rm (lv1 := [(0, .ref 69), (1, .int (nI i)), (2, .int (nI (p + n)))]) 3 rfl ?_
          exact ih (p + n) w2 (acc ++ List.replicate n v) (by omega) ht (by omega) (hS.tr q1) q2 q3
set_option maxRecDepth 100000 in
set_option maxHeartbeats 4000000 in
theorem c_Md_runs (h : mO w nl dl fl ln md op pl tk (nI 0)) (hA : mA w 81 400 []) (hF : mFi w i f) : ab_E G mm_Md_runs rr_Md_runs 0 [(0, .ref 69), (1, .int (nI i))] [] w (pV fun w2 => rS w w2 69 81 ∧ mO w2 nl dl fl ln md op pl tk (nI (runs f.2.2).length) ∧ mA w2 81 400 (runs f.2.2)) := by
  have hl60 := hF.2.1.2.2.2.1
  have hrl := runs_len f.2.2
  refine e_iconst_n 0 dd_Md_runs_0 (by decide) ?_
  refine e_istore_n (lv1 := [(0, .ref 69), (1, .int (nI i)), (2, .int (nI 0))]) dd_Md_runs_1 (by decide) rfl ?_
  exact l_Md_runs hF _ (by omega) f.2.2.length 0 w [] (by omega) rfl (by omega) rS.rf h hA
end MD
