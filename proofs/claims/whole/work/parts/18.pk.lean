/-! ArchiveBench$Packer: the drafts of images. -/
def wfAt (w : ab_W) (i : Nat) (f : FW) (x : Int32) : Prop := cWF w i f.1 (fsq f) f.2.1 f.2.2.length (crc f.2.2) x
/-- the packer and what waits -/
def cPk (w : ab_W) (fs : List FW) : Prop := fs.length ≤ 6 ∧ w.1 6 = some (.inr (2, [.ref 7, .int (nI fs.length), .ref 38])) ∧ (∃ g, w.1 7 = some (.inl (1, 6, .inr (.inr (.inr (.inr g))))) ∧ ∀ i, i < 6 → g i = some (8 + 5 * i)) ∧ (∀ i, i < 6 → ∃ nm sq m n ck x, cWF w i nm sq m n ck x) ∧ ∀ (i : Nat) (f : FW), fs[i]? = some f → fwOK f ∧ ∃ x, wfAt w i f x
theorem cPk.keep {w w2 : ab_W} {fs : List FW} (h : cPk w fs) (hG : ∀ j, 6 ≤ j → j < 38 → w2.1 j = w.1 j) : cPk w2 fs := by
  have kw : ∀ i nm sq m n ck x, i < 6 → cWF w i nm sq m n ck x → cWF w2 i nm sq m n ck x := fun i nm sq m n ck x hi hc => ⟨(hG _ (by omega) (by omega)).trans hc.1, hc.2.1.keep (hG _ (by omega) (by omega)) (hG _ (by omega) (by omega)), hc.2.2.keep (hG _ (by omega) (by omega)) (hG _ (by omega) (by omega))⟩
  obtain ⟨h1, h2, ⟨g, h3, h4⟩, h5, h6⟩ := h
  refine ⟨h1, (hG 6 (by omega) (by omega)).trans h2, ⟨g, (hG 7 (by omega) (by omega)).trans h3, h4⟩, fun i hi => ?_, fun i f hf => ?_⟩
  · obtain ⟨nm, sq, m, n, ck, x, hc⟩ := h5 i hi
    exact ⟨nm, sq, m, n, ck, x, kw i nm sq m n ck x hi hc⟩
  · obtain ⟨h7, x, h8⟩ := h6 i f hf
    have hi : i < fs.length := (List.getElem?_eq_some_iff.mp hf).1
    exact ⟨h7, x, kw i _ _ _ _ _ _ (by omega) h8⟩
theorem cPk.fr {w w2 : ab_W} {fs : List FW} (h : cPk w fs) (hS : rS w w2 38 39) : cPk w2 fs := h.keep (fun j h1 h2 => hS.2 j (by omega) (by omega))
/-- the chain of files: behind each one zeros up to a fourth place -/
def frec (acc : List Nat) (f : FW) : List Nat := recP (rec1 acc f.1 (fsq f) f.2.1 f.2.2.length (crc f.2.2))
def chn (fs : List FW) : List Nat := fs.foldl frec []
def chain (fs : List FW) : List Nat := chn fs ++ [69]
theorem recP_len (acc : List Nat) : (recP acc).length = acc.length + (4 - acc.length % 4) % 4 := by simp [recP]
theorem rec1_len (acc nm sq : List Nat) (m n ck : Nat) : (rec1 acc nm sq m n ck).length = acc.length + nm.length + 8 + sq.length := by
  have h := hd1_len nm sq.length m n ck
  simp only [rec1, List.length_append, h, List.length_cons, List.length_nil]
  omega
theorem frec_len {acc : List Nat} {f : FW} {k : Nat} (hf : fwOK f) (h : acc.length ≤ 136 * k) : (frec acc f).length ≤ 136 * (k + 1) := by
  have h1 := fsq_len hf
  have h2 := hf.2.1
  have h3 := rec1_len acc f.1 (fsq f) f.2.1 f.2.2.length (crc f.2.2)
  rw [frec, recP_len]
  omega
theorem take_snoc {α : Type} {fs : List α} {i : Nat} {f : α} (h : fs[i]? = some f) : fs.take (i + 1) = fs.take i ++ [f] := by
  rw [List.take_add_one, h]
  rfl
theorem chn_len {fs : List FW} (h : ∀ (i : Nat) (f : FW), fs[i]? = some f → fwOK f) : ∀ i, i ≤ fs.length → (chn (fs.take i)).length ≤ 136 * i
  | 0, _ => by simp [chn]
  | i + 1, hi => by
    have h1 := chn_len h i (by omega)
    have h2 : fs[i]? = some fs[i] := List.getElem?_eq_getElem (by omega)
    rw [take_snoc h2, chn, List.foldl_append]
    exact frec_len (h i _ h2) h1
section PK
variable {G : ab_G} {w : ab_W} {fs : List FW} {dr : List Nat}
set_option maxRecDepth 100000 in
set_option maxHeartbeats 4000000 in
theorem l_Pk_draftChain (hp : cPk w fs) : ∀ (k i : Nat) (w1 : ab_W), i + k = fs.length → rS w w1 38 39 → cR w1 38 39 823 (chn (fs.take i)) → ab_E G mm_Pk_draftChain rr_Pk_draftChain 10 [(0, .ref 6), (1, .int (nI i))] [] w1 (pV fun w2 => rS w w2 38 39 ∧ cR w2 38 39 823 (chain fs)) := by
  have hok : ∀ (i : Nat) (f : FW), fs[i]? = some f → fwOK f := fun i f hf => (hp.2.2.2.2 i f hf).1
  intro k
  induction k with
  | zero =>
    intro i w1 hi hS hd
    have h1 := hp.fr hS
    obtain ⟨hl6, h6, ⟨g, h7, hg⟩, -, hfs⟩ := h1
    have e0 : i = fs.length := by omega
    subst e0
    have hlen := chn_len hok _ (Nat.le_refl _)
    rw [List.take_length] at hd hlen
    have hr := hd.obj
    refine e_iload_n dd_Pk_draftChain_10 rfl ?_
    refine e_aload_n dd_Pk_draftChain_11 rfl ?_
    refine e_get dd_Pk_draftChain_12 kf_Pk_18 h6 rfl ?_
    refine e_icmp_ge_n (tgt := 34) dd_Pk_draftChain_15 (by decide) (by omega) (by omega) (fun _ => ?_) (fun h9 => absurd h9 (by omega))
    refine e_aload_n dd_Pk_draftChain_34 rfl ?_
    refine e_get dd_Pk_draftChain_35 kf_Pk_27 h6 rfl ?_
    refine e_bipush_n 69 dd_Pk_draftChain_38 (by decide) ?_
    refine e_callVi (d1 := rr_Row_append) (As := [.int (nI 69)]) (st := []) dd_Pk_draftChain_40 km_Pk_38 hr rfl (by decide) rfl (Nat.le_of_ble_eq_true rfl) (Nat.le_of_ble_eq_true rfl) rfl rfl (c_Row_app hd (by decide) (by omega)) (fun w2 k1 => ?_)
    refine e_pop dd_Pk_draftChain_43 rfl ?_
    exact e_vret dd_Pk_draftChain_44 rfl (pV_of ⟨hS.tr k1.1, k1.2⟩)
  | succ k ih =>
    intro i w1 hi hS hd
    have h1 := hp.fr hS
    obtain ⟨hl6, h6, ⟨g, h7, hg⟩, -, hfs⟩ := h1
    have hlen := chn_len hok i (by omega)
    have hfi : fs[i]? = some fs[i] := List.getElem?_eq_getElem (by omega)
    generalize fs[i] = f at hfi
    obtain ⟨⟨o1, o2, o3, o4, o5, o6⟩, x, hwf⟩ := hfs i f hfi
    have hsl := fsq_len (hok i f hfi)
    have hcl := crc_lt f.2.2
    refine e_iload_n dd_Pk_draftChain_10 rfl ?_
    refine e_aload_n dd_Pk_draftChain_11 rfl ?_
    refine e_get dd_Pk_draftChain_12 kf_Pk_18 h6 rfl ?_
    refine e_icmp_ge_n (tgt := 34) dd_Pk_draftChain_15 (by decide) (by omega) (by omega) (fun h9 => absurd h9 (by omega)) (fun _ => ?_)
    refine e_aload_n dd_Pk_draftChain_18 rfl ?_
    refine e_aload_n dd_Pk_draftChain_19 rfl ?_
    refine e_get dd_Pk_draftChain_20 kf_Pk_11 h6 rfl ?_
    refine e_iload_n dd_Pk_draftChain_23 rfl ?_
    refine e_aald (v := .ref (8 + 5 * i)) dd_Pk_draftChain_24 h7 rfl rfl (by omega) (by decide) (by rw [hg _ (by omega)]; rfl) ?_
    refine e_callVv (d1 := rr_Pk_appendRecord) (As := [.ref (8 + 5 * i)]) (st := []) dd_Pk_draftChain_25 km_Pk_34 h6 rfl (by decide) rfl (Nat.le_of_ble_eq_true rfl) (Nat.le_of_ble_eq_true rfl) rfl rfl (c_Pk_appendRecord h6 hwf (by omega) (by omega) (by omega) hcl hd (by omega)) (fun w2 k1 => ?_)
    refine e_iinc_n (a := i) (k := 1) (lv1 := [(0, .ref 6), (1, .int (nI (i + 1)))]) dd_Pk_draftChain_28 rfl (by decide) (by decide) rfl ?_
    refine e_goto (tgt := 10) dd_Pk_draftChain_31 (by decide) ?_
    exact ih (i + 1) w2 (by omega) (hS.tr k1.1) (by rw [take_snoc hfi, chn, List.foldl_append]; exact k1.2)
set_option maxRecDepth 100000 in
set_option maxHeartbeats 4000000 in
theorem c_Pk_draftChain (hp : cPk w fs) (hd : cR w 38 39 823 dr) : ab_E G mm_Pk_draftChain rr_Pk_draftChain 0 [(0, .ref 6)] [] w (pV fun w2 => rS w w2 38 39 ∧ cR w2 38 39 823 (chain fs)) := by
  have h6 := hp.2.1
  have hr := hd.obj
  refine e_aload_n dd_Pk_draftChain_0 rfl ?_
  refine e_get dd_Pk_draftChain_1 kf_Pk_27 h6 rfl ?_
  refine e_iconst_n 0 dd_Pk_draftChain_4 (by decide) ?_
  refine e_callVv (d1 := rr_Row_cutTo) (As := [.int (nI 0)]) (st := []) dd_Pk_draftChain_5 km_Pk_31 hr rfl (by decide) rfl (Nat.le_of_ble_eq_true rfl) (Nat.le_of_ble_eq_true rfl) rfl rfl (c_Row_cutTo hd (k := 0) (by decide)) (fun w1 k1 => ?_)
  refine e_iconst_n 0 dd_Pk_draftChain_8 (by decide) ?_
  refine e_istore_n (lv1 := [(0, .ref 6), (1, .int (nI 0))]) dd_Pk_draftChain_9 (by decide) rfl ?_
  have k2 := k1.2
  rw [List.take_zero] at k2
  exact l_Pk_draftChain hp fs.length 0 w1 (by omega) k1.1 k2
/-- the data of an index; its directory, the first file's place being at_ -/
def dat (fs : List FW) : List Nat := 73 :: fs.flatMap fsq
def ent (f : FW) (at_ : Nat) : List Nat := ent1 f.1 (fsq f).length f.2.1 f.2.2.length (crc f.2.2) at_
def plc (fs : List FW) (i : Nat) : Nat := (dat (fs.take i)).length
def entN (fs : List FW) : Nat → List Nat
  | 0 => []
  | i + 1 => entN fs i ++ (match fs[i]? with
    | some f => ent f (plc fs i)
    | none => [])
def index (fs : List FW) : List Nat := dat fs ++ entN fs fs.length ++ [88, fs.length, (dat fs).length / 256, (dat fs).length % 256, crc (entN fs fs.length) / 256, crc (entN fs fs.length) % 256]
theorem dat_snoc {fs : List FW} {i : Nat} {f : FW} (h : fs[i]? = some f) : dat (fs.take (i + 1)) = dat (fs.take i) ++ fsq f := by
  rw [take_snoc h, dat, dat, List.flatMap_append]
  simp
theorem dat_len {fs : List FW} (h : ∀ (i : Nat) (f : FW), fs[i]? = some f → fwOK f) : ∀ i, i ≤ fs.length → (dat (fs.take i)).length ≤ 1 + 120 * i
  | 0, _ => by simp [dat]
  | i + 1, hi => by
    have h1 := dat_len h i (by omega)
    have h2 : fs[i]? = some fs[i] := List.getElem?_eq_getElem (by omega)
    have h3 := fsq_len (h i _ h2)
    rw [dat_snoc h2, List.length_append]
    omega
theorem ent_len (f : FW) (at_ : Nat) : (ent f at_).length = f.1.length + 8 := by simp [ent, ent1]
theorem entN_len {fs : List FW} (h : ∀ (i : Nat) (f : FW), fs[i]? = some f → fwOK f) : ∀ i, i ≤ fs.length → (entN fs i).length ≤ 16 * i
  | 0, _ => by simp [entN]
  | i + 1, hi => by
    have h1 := entN_len h i (by omega)
    have h2 : fs[i]? = some fs[i] := List.getElem?_eq_getElem (by omega)
    have h3 := (h i _ h2).2.1
    have h4 := ent_len fs[i] (plc fs i)
    rw [entN, h2, List.length_append]
    show _ + (ent fs[i] (plc fs i)).length ≤ _
    omega
/-- the waiting files, those before k with their places in the index -/
def cPkI (w : ab_W) (fs : List FW) (k : Nat) : Prop := cPk w fs ∧ ∀ i f, i < k → fs[i]? = some f → wfAt w i f (nI (plc fs i))
theorem cPkI.fr {w w2 : ab_W} {fs : List FW} {k : Nat} (h : cPkI w fs k) (hS : rS w w2 38 39) : cPkI w2 fs k := ⟨h.1.fr hS, fun i f hi hf => by
  have h6 := h.1.1
  have h2 : i < fs.length := (List.getElem?_eq_some_iff.mp hf).1
  exact (h.2 i f hi hf).fr hS (by omega) (by omega)⟩
/-- one more place is written -/
theorem cPkI.put {w w2 : ab_W} {fs : List FW} {k : Nat} {f : FW} {x : Int32} (h : cPkI w fs k) (hk : fs[k]? = some f) (hw : wfAt w k f x) (hv : w2.1 (8 + 5 * k) = some (.inr (3, [.ref (9 + 5 * k), .ref (11 + 5 * k), .int (nI f.2.1), .int (nI f.2.2.length), .int (nI (crc f.2.2)), .int (nI (plc fs k))]))) (hf : ∀ j, j ≠ 8 + 5 * k → w2.1 j = w.1 j) : cPkI w2 fs (k + 1) := by
  obtain ⟨⟨h1, h2, ⟨g, h3, h4⟩, h5, h6⟩, h7⟩ := h
  have hkl : k < fs.length := (List.getElem?_eq_some_iff.mp hk).1
  have kw : ∀ i nm sq m n ck x, i ≠ k → cWF w i nm sq m n ck x → cWF w2 i nm sq m n ck x := fun i nm sq m n ck x hi hc => ⟨(hf _ (by omega)).trans hc.1, hc.2.1.keep (hf _ (by omega)) (hf _ (by omega)), hc.2.2.keep (hf _ (by omega)) (hf _ (by omega))⟩
  have kk : wfAt w2 k f (nI (plc fs k)) := ⟨hv, hw.2.1.keep (hf _ (by omega)) (hf _ (by omega)), hw.2.2.keep (hf _ (by omega)) (hf _ (by omega))⟩
  refine ⟨⟨h1, (hf 6 (by omega)).trans h2, ⟨g, (hf 7 (by omega)).trans h3, h4⟩, fun i hi => ?_, fun i f2 hf2 => ?_⟩, fun i f2 hi hf2 => ?_⟩
  · by_cases e : i = k
    · subst e
      exact ⟨_, _, _, _, _, _, kk⟩
    · obtain ⟨nm, sq, m, n, ck, x, hc⟩ := h5 i hi
      exact ⟨nm, sq, m, n, ck, x, kw i nm sq m n ck x e hc⟩
  · by_cases e : i = k
    · subst e
      rw [hk] at hf2
      cases hf2
      exact ⟨(h6 i f hk).1, _, kk⟩
    · obtain ⟨h8, x, h9⟩ := h6 i f2 hf2
      exact ⟨h8, x, kw i _ _ _ _ _ _ e h9⟩
  · by_cases e : i = k
    · subst e
      rw [hk] at hf2
      cases hf2
      exact kk
    · exact kw i _ _ _ _ _ _ e (h7 i f2 (by omega) hf2)
set_option maxRecDepth 100000 in
set_option maxHeartbeats 4000000 in
theorem l_Pk_entries (hok : ∀ (i : Nat) (f : FW), fs[i]? = some f → fwOK f) (D : Nat) : ∀ (k i : Nat) (w1 : ab_W), i + k = fs.length → rG w w1 6 40 → cPkI w1 fs fs.length → cR w1 38 39 823 (dat fs ++ entN fs i) → D = (dat fs).length → ab_E G mm_Pk_draftIndex rr_Pk_draftIndex 76 [(0, .ref 6), (1, .int (nI D)), (2, .int (nI i))] [] w1 (pV fun w2 => rG w w2 6 40 ∧ cPk w2 fs ∧ cR w2 38 39 823 (index fs)) := by
  intro k
  have hdl := dat_len hok fs.length (Nat.le_refl _)
  rw [List.take_length] at hdl
  induction k with
  | zero =>
    intro i w1 hi hG hp hd hD
    subst hD
    obtain ⟨hl6, h6, -, -, hfs⟩ := hp.1
    have e0 : i = fs.length := by omega
    subst e0
    have hlen := entN_len hok fs.length (Nat.le_refl _)
    generalize hE : entN fs fs.length = E at hd hlen
    have hcE := crc_lt E
    have e1 : (dat fs ++ E).length = (dat fs).length + E.length := by simp
    have hr := hd.obj
    have k0 := c_Row_check (G := G) hd (b := (dat fs).length) (e := (dat fs ++ E).length) (by omega) (Nat.le_refl _)
    rw [List.drop_left, show (dat fs ++ E).length - (dat fs).length = E.length by omega, List.take_length] at k0
    refine e_iload_n dd_Pk_draftIndex_76 rfl ?_
    refine e_aload_n dd_Pk_draftIndex_77 rfl ?_
    refine e_get dd_Pk_draftIndex_78 kf_Pk_18 h6 rfl ?_
    refine e_icmp_ge_n (tgt := 100) dd_Pk_draftIndex_81 (by decide) (by omega) (by omega) (fun _ => ?_) (fun h9 => absurd h9 (by omega))
    refine e_aload_n dd_Pk_draftIndex_100 rfl ?_
    refine e_get dd_Pk_draftIndex_101 kf_Pk_27 h6 rfl ?_
    refine e_iload_n dd_Pk_draftIndex_104 rfl ?_
    refine e_aload_n dd_Pk_draftIndex_105 rfl ?_
    refine e_get dd_Pk_draftIndex_106 kf_Pk_27 h6 rfl ?_
    refine e_get dd_Pk_draftIndex_109 kf_Pk_42 hr rfl ?_
    refine e_callVp (d1 := rr_Row_check) (As := [.int (nI (dat fs).length), .int (nI (dat fs ++ E).length)]) (st := []) dd_Pk_draftIndex_112 km_Pk_76 hr rfl (by decide) rfl (Nat.le_of_ble_eq_true rfl) (Nat.le_of_ble_eq_true rfl) rfl rfl (k0) ?_
    refine e_istore_n (lv1 := [(0, .ref 6), (1, .int (nI (dat fs).length)), (2, .int (nI (crc E)))]) dd_Pk_draftIndex_115 (by decide) rfl ?_
    refine e_aload_n dd_Pk_draftIndex_116 rfl ?_
    refine e_get dd_Pk_draftIndex_117 kf_Pk_27 h6 rfl ?_
    refine e_bipush_n 88 dd_Pk_draftIndex_120 (by decide) ?_
    refine e_callVi (d1 := rr_Row_append) (As := [.int (nI 88)]) (st := []) dd_Pk_draftIndex_122 km_Pk_38 hr rfl (by decide) rfl (Nat.le_of_ble_eq_true rfl) (Nat.le_of_ble_eq_true rfl) rfl rfl (c_Row_app hd (by decide) (by omega)) (fun w2 k1 => ?_)
    have h6 := (k1.1.2 6 (by decide) (by decide)).trans h6
    have hr := k1.2.obj
    have e2 : (dat fs ++ E ++ [88]).length = (dat fs ++ E).length + 1 := by simp; omega
    refine e_pop dd_Pk_draftIndex_125 rfl ?_
    refine e_aload_n dd_Pk_draftIndex_126 rfl ?_
    refine e_get dd_Pk_draftIndex_127 kf_Pk_27 h6 rfl ?_
    refine e_aload_n dd_Pk_draftIndex_130 rfl ?_
    refine e_get dd_Pk_draftIndex_131 kf_Pk_18 h6 rfl ?_
    refine e_callVi (d1 := rr_Row_append) (As := [.int (nI fs.length)]) (st := []) dd_Pk_draftIndex_134 km_Pk_38 hr rfl (by decide) rfl (Nat.le_of_ble_eq_true rfl) (Nat.le_of_ble_eq_true rfl) rfl rfl (c_Row_app k1.2 (by omega) (by omega)) (fun w3 k2 => ?_)
    have h6 := (k2.1.2 6 (by decide) (by decide)).trans h6
    have hr := k2.2.obj
    have e3 : (dat fs ++ E ++ [88] ++ [fs.length]).length = (dat fs ++ E).length + 2 := by simp; omega
    refine e_pop dd_Pk_draftIndex_137 rfl ?_
    refine e_aload_n dd_Pk_draftIndex_138 rfl ?_
    refine e_get dd_Pk_draftIndex_139 kf_Pk_27 h6 rfl ?_
    refine e_iload_n dd_Pk_draftIndex_142 rfl ?_
    refine e_callVv (d1 := rr_Row_appendNumber) (As := [.int (nI (dat fs).length)]) (st := []) dd_Pk_draftIndex_143 km_Pk_79 hr rfl (by decide) rfl (Nat.le_of_ble_eq_true rfl) (Nat.le_of_ble_eq_true rfl) rfl rfl (c_Row_appendNumber k2.2 (by omega) (by omega)) (fun w4 k3 => ?_)
    have h6 := (k3.1.2 6 (by decide) (by decide)).trans h6
    have hr := k3.2.obj
    have e4 : (dat fs ++ E ++ [88] ++ [fs.length] ++ [(dat fs).length / 256, (dat fs).length % 256]).length = (dat fs ++ E).length + 4 := by simp; omega
    refine e_aload_n dd_Pk_draftIndex_146 rfl ?_
    refine e_get dd_Pk_draftIndex_147 kf_Pk_27 h6 rfl ?_
    refine e_iload_n dd_Pk_draftIndex_150 rfl ?_
    refine e_callVv (d1 := rr_Row_appendNumber) (As := [.int (nI (crc E))]) (st := []) dd_Pk_draftIndex_151 km_Pk_79 hr rfl (by decide) rfl (Nat.le_of_ble_eq_true rfl) (Nat.le_of_ble_eq_true rfl) rfl rfl (c_Row_appendNumber k3.2 hcE (by omega)) (fun w5 k4 => ?_)
    have kS := k1.1.tr (k2.1.tr (k3.1.tr k4.1))
    have k5 := k4.2
    refine e_vret dd_Pk_draftIndex_154 rfl (pV_of ⟨hG.tr (kS.G (by omega) (by omega)), hp.1.fr kS, ?_⟩)
    rw [index, hE]
    simpa using k5
  | succ k ih =>
    intro i w1 hi hG hp hd hD
    obtain ⟨hl6, h6, ⟨g, h7, hg⟩, -, hfs⟩ := hp.1
    have hfi : fs[i]? = some fs[i] := List.getElem?_eq_getElem (by omega)
    generalize fs[i] = f at hfi
    have hwf := hp.2 i f (by omega) hfi
    obtain ⟨o1, o2, o3, o4, o5, o6⟩ := hok i f hfi
    have hcl := crc_lt f.2.2
    have hpl : plc fs i < 65536 := by
      have := dat_len hok i (by omega)
      unfold plc
      omega
    have hlen := entN_len hok i (by omega)
    have e1 : (dat fs ++ entN fs i).length = (dat fs).length + (entN fs i).length := by simp
    refine e_iload_n dd_Pk_draftIndex_76 rfl ?_
    refine e_aload_n dd_Pk_draftIndex_77 rfl ?_
    refine e_get dd_Pk_draftIndex_78 kf_Pk_18 h6 rfl ?_
    refine e_icmp_ge_n (tgt := 100) dd_Pk_draftIndex_81 (by decide) (by omega) (by omega) (fun h9 => absurd h9 (by omega)) (fun _ => ?_)
    refine e_aload_n dd_Pk_draftIndex_84 rfl ?_
    refine e_aload_n dd_Pk_draftIndex_85 rfl ?_
    refine e_get dd_Pk_draftIndex_86 kf_Pk_11 h6 rfl ?_
    refine e_iload_n dd_Pk_draftIndex_89 rfl ?_
    refine e_aald (v := .ref (8 + 5 * i)) dd_Pk_draftIndex_90 h7 rfl rfl (by omega) (by decide) (by rw [hg _ (by omega)]; rfl) ?_
    refine e_callVv (d1 := rr_Pk_appendEntry) (As := [.ref (8 + 5 * i)]) (st := []) dd_Pk_draftIndex_91 km_Pk_73 h6 rfl (by decide) rfl (Nat.le_of_ble_eq_true rfl) (Nat.le_of_ble_eq_true rfl) rfl rfl (c_Pk_appendEntry h6 hwf (by omega) (by omega) (by omega) hcl hpl hd (by omega)) (fun w2 k1 => ?_)
    refine e_iinc_n (a := i) (k := 1) (lv1 := [(0, .ref 6), (1, .int (nI D)), (2, .int (nI (i + 1)))]) dd_Pk_draftIndex_94 rfl (by decide) (by decide) rfl ?_
    refine e_goto (tgt := 76) dd_Pk_draftIndex_97 (by decide) ?_
    exact ih (i + 1) w2 (by omega) (hG.tr (k1.1.G (by omega) (by omega))) (hp.fr k1.1) (by rw [entN, hfi, ← List.append_assoc]; exact k1.2) hD
set_option maxRecDepth 100000 in
set_option maxHeartbeats 4000000 in
theorem l_Pk_data (hok : ∀ (i : Nat) (f : FW), fs[i]? = some f → fwOK f) : ∀ (k i : Nat) (w1 : ab_W), i + k = fs.length → rG w w1 6 40 → cPkI w1 fs i → cR w1 38 39 823 (dat (fs.take i)) → ab_E G mm_Pk_draftIndex rr_Pk_draftIndex 20 [(0, .ref 6), (1, .int (nI i))] [] w1 (pV fun w2 => rG w w2 6 40 ∧ cPk w2 fs ∧ cR w2 38 39 823 (index fs)) := by
  intro k
  induction k with
  | zero =>
    intro i w1 hi hG hp hd
    obtain ⟨hl6, h6, -, -, hfs⟩ := hp.1
    have e0 : i = fs.length := by omega
    subst e0
    rw [List.take_length] at hd
    have hr := hd.obj
    refine e_iload_n dd_Pk_draftIndex_20 rfl ?_
    refine e_aload_n dd_Pk_draftIndex_21 rfl ?_
    refine e_get dd_Pk_draftIndex_22 kf_Pk_18 h6 rfl ?_
    refine e_icmp_ge_n (tgt := 66) dd_Pk_draftIndex_25 (by decide) (by omega) (by omega) (fun _ => ?_) (fun h9 => absurd h9 (by omega))
    refine e_aload_n dd_Pk_draftIndex_66 rfl ?_
    refine e_get dd_Pk_draftIndex_67 kf_Pk_27 h6 rfl ?_
    refine e_get dd_Pk_draftIndex_70 kf_Pk_42 hr rfl ?_
    refine e_istore_n (lv1 := [(0, .ref 6), (1, .int (nI (dat fs).length))]) dd_Pk_draftIndex_73 (by decide) rfl ?_
    refine e_iconst_n 0 dd_Pk_draftIndex_74 (by decide) ?_
    refine e_istore_n (lv1 := [(0, .ref 6), (1, .int (nI (dat fs).length)), (2, .int (nI 0))]) dd_Pk_draftIndex_75 (by decide) rfl ?_
    exact l_Pk_entries hok _ fs.length 0 w1 (by omega) hG hp (by rw [entN, List.append_nil]; exact hd) rfl
  | succ k ih =>
    intro i w1 hi hG hp hd
    obtain ⟨hl6, h6, ⟨g, h7, hg⟩, -, hfs⟩ := hp.1
    have hfi : fs[i]? = some fs[i] := List.getElem?_eq_getElem (by omega)
    generalize fs[i] = f at hfi
    obtain ⟨hof, x, hwf⟩ := hfs i f hfi
    have ho := hwf.1
    have hsl := fsq_len hof
    have hlen := dat_len hok i (by omega)
    have hr := hd.obj
    refine e_iload_n dd_Pk_draftIndex_20 rfl ?_
    refine e_aload_n dd_Pk_draftIndex_21 rfl ?_
    refine e_get dd_Pk_draftIndex_22 kf_Pk_18 h6 rfl ?_
    refine e_icmp_ge_n (tgt := 66) dd_Pk_draftIndex_25 (by decide) (by omega) (by omega) (fun h9 => absurd h9 (by omega)) (fun _ => ?_)
    refine e_aload_n dd_Pk_draftIndex_28 rfl ?_
    refine e_get dd_Pk_draftIndex_29 kf_Pk_11 h6 rfl ?_
    refine e_iload_n dd_Pk_draftIndex_32 rfl ?_
    refine e_aald (v := .ref (8 + 5 * i)) dd_Pk_draftIndex_33 h7 rfl rfl (by omega) (by decide) (by rw [hg _ (by omega)]; rfl) ?_
    refine e_aload_n dd_Pk_draftIndex_34 rfl ?_
    refine e_get dd_Pk_draftIndex_35 kf_Pk_27 h6 rfl ?_
    refine e_get dd_Pk_draftIndex_38 kf_Pk_42 hr rfl ?_
    refine e_putx (fs1 := [.ref (9 + 5 * i), .ref (11 + 5 * i), .int (nI f.2.1), .int (nI f.2.2.length), .int (nI (crc f.2.2)), .int (nI (dat (fs.take i)).length)]) dd_Pk_draftIndex_41 kf_Pk_70 ho (Nat.le_of_ble_eq_true rfl) rfl rfl rfl (fun w21 h22n h22v h22f => ?_)
    have hp2 : cPkI w21 fs (i + 1) := hp.put hfi hwf h22v h22f
    have hs2 := hwf.2.2.keep (h22f _ (by omega)) (h22f _ (by omega))
    have hd2 := hd.keep (h22f 38 (by omega)) (h22f 39 (by omega))
    refine e_aload_n dd_Pk_draftIndex_44 rfl ?_
    refine e_get dd_Pk_draftIndex_45 kf_Pk_27 ((h22f _ (by omega)).trans h6) rfl ?_
    refine e_aload_n dd_Pk_draftIndex_48 rfl ?_
    refine e_get dd_Pk_draftIndex_49 kf_Pk_11 ((h22f _ (by omega)).trans h6) rfl ?_
    refine e_iload_n dd_Pk_draftIndex_52 rfl ?_
    refine e_aald (v := .ref (8 + 5 * i)) dd_Pk_draftIndex_53 ((h22f _ (by omega)).trans h7) rfl rfl (by omega) (by decide) (by rw [hg _ (by omega)]; rfl) ?_
    refine e_get dd_Pk_draftIndex_54 kf_Pk_56 h22v rfl ?_
    refine e_callVv (d1 := rr_Row_appendAll) (As := [.ref (11 + 5 * i)]) (st := []) dd_Pk_draftIndex_57 km_Pk_59 ((h22f _ (by omega)).trans hr) rfl (by decide) rfl (Nat.le_of_ble_eq_true rfl) (Nat.le_of_ble_eq_true rfl) rfl rfl (c_Row_appendAll hd2 hs2 (by omega) (by omega) (by omega)) (fun w5 k1 => ?_)
    refine e_iinc_n (a := i) (k := 1) (lv1 := [(0, .ref 6), (1, .int (nI (i + 1)))]) dd_Pk_draftIndex_60 rfl (by decide) (by decide) rfl ?_
    refine e_goto (tgt := 20) dd_Pk_draftIndex_63 (by decide) ?_
    exact ih (i + 1) w5 (by omega) (hG.tr (rG.tr ⟨h22n, fun j hj => h22f j (by omega)⟩ (k1.1.G (by omega) (by omega)))) (hp2.fr k1.1) (by rw [dat_snoc hfi]; exact k1.2)
set_option maxRecDepth 100000 in
set_option maxHeartbeats 4000000 in
theorem c_Pk_draftIndex (hp : cPk w fs) (hd : cR w 38 39 823 dr) : ab_E G mm_Pk_draftIndex rr_Pk_draftIndex 0 [(0, .ref 6)] [] w (pV fun w2 => rG w w2 6 40 ∧ cPk w2 fs ∧ cR w2 38 39 823 (index fs)) := by
  have hok : ∀ (i : Nat) (f : FW), fs[i]? = some f → fwOK f := fun i f hf => (hp.2.2.2.2 i f hf).1
  have h6 := hp.2.1
  have hr := hd.obj
  refine e_aload_n dd_Pk_draftIndex_0 rfl ?_
  refine e_get dd_Pk_draftIndex_1 kf_Pk_27 h6 rfl ?_
  refine e_iconst_n 0 dd_Pk_draftIndex_4 (by decide) ?_
  refine e_callVv (d1 := rr_Row_cutTo) (As := [.int (nI 0)]) (st := []) dd_Pk_draftIndex_5 km_Pk_31 hr rfl (by decide) rfl (Nat.le_of_ble_eq_true rfl) (Nat.le_of_ble_eq_true rfl) rfl rfl (c_Row_cutTo hd (k := 0) (by decide)) (fun w1 k1 => ?_)
  have k2 := k1.2
  rw [List.take_zero] at k2
  have h6 := (k1.1.2 6 (by decide) (by decide)).trans h6
  have hr := k2.obj
  refine e_aload_n dd_Pk_draftIndex_8 rfl ?_
  refine e_get dd_Pk_draftIndex_9 kf_Pk_27 h6 rfl ?_
  refine e_bipush_n 73 dd_Pk_draftIndex_12 (by decide) ?_
  refine e_callVi (d1 := rr_Row_append) (As := [.int (nI 73)]) (st := []) dd_Pk_draftIndex_14 km_Pk_38 hr rfl (by decide) rfl (Nat.le_of_ble_eq_true rfl) (Nat.le_of_ble_eq_true rfl) rfl rfl (c_Row_app k2 (by decide) (by decide)) (fun w2 k3 => ?_)
  refine e_pop dd_Pk_draftIndex_17 rfl ?_
  refine e_iconst_n 0 dd_Pk_draftIndex_18 (by decide) ?_
  refine e_istore_n (lv1 := [(0, .ref 6), (1, .int (nI 0))]) dd_Pk_draftIndex_19 (by decide) rfl ?_
  exact l_Pk_data hok fs.length 0 w2 (by omega) ((k1.1.tr k3.1).G (by omega) (by omega)) ⟨(hp.fr k1.1).fr k3.1, fun i f hi _ => absurd hi (by omega)⟩ k3.2
end PK
