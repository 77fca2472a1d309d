/-! The reference: heads, entries. -/
theorem upd_e {f : Nat → Int32} {j : Nat} {x : Int32} : upd f j x j = x := if_pos rfl
theorem upd_n {f : Nat → Int32} {j i : Nat} {x : Int32} (h : i ≠ j) : upd f j x i = f i := if_neg h
def hdF (w : ab_W) (nl dl fl ln md op tk rq : Int32) : Nat → ab_W → Prop := fun pl w2 => rS w w2 69 79 ∧ mO w2 nl dl fl ln md op (nI pl) tk rq ∧ ∃ g, w2.1 79 = some (.inl (0, 84, .inl g))
def hdG (o : Nat) (g g2 : Nat → Int32) (m K : Nat) (nm : List Nat) : Prop := (∀ t, t < 14 * o → g2 t = g t) ∧ (o < 6 → g2 (14 * o + 0) = nI m ∧ g2 (14 * o + 1) = nI K ∧ ∀ i, i < nm.length → g2 (14 * o + (6 + i)) = nI (nm.getD i 0))
def hdS (w : ab_W) (o : Nat) (g : Nat → Int32) : (Nat × List Nat) → ab_W → Prop := fun q w2 => rS w w2 79 79 ∧ ∃ g2, w2.1 79 = some (.inl (0, 84, .inl g2)) ∧ hdG o g g2 q.1 q.2.length q.2
theorem rS.w79 {w w2 : ab_W} (h : rS w w2 79 79) : rS w w2 69 79 := ⟨h.1, fun j _ b => h.2 j b b⟩
theorem opI.far {g g2 : Nat → Int32} {j : Nat} {q : FO} (h : opI g j q) (h8 : q.1.length ≤ 8) (hf : ∀ t, t < 14 * (j + 1) → g2 t = g t) : opI g2 j q := by
  obtain ⟨a0, a1, a2, a3, a4, a5, a6⟩ := h
  exact ⟨(hf _ (by omega)).trans a0, (hf _ (by omega)).trans a1, (hf _ (by omega)).trans a2, (hf _ (by omega)).trans a3, (hf _ (by omega)).trans a4, (hf _ (by omega)).trans a5, fun i hi => (hf _ (by omega)).trans (a6 i hi)⟩
section MD
variable {G : ab_G} {w : ab_W} {nl dl fl ln md op pl tk rq : Int32} {xs ds im : List Nat} {i o li : Nat} {g : Nat → Int32}
set_option maxRecDepth 100000 in
set_option maxHeartbeats 4000000 in
theorem c_Md_note (h : mO w nl dl fl ln md (nI o) pl tk rq) (h79 : w.1 79 = some (.inl (0, 84, .inl g))) (ho : o < 6) (x1 x2 x3 x4 : Int32) : ab_E G mm_Md_note rr_Md_note 0 [(0, .ref 69), (1, .int x1), (2, .int x2), (3, .int x3), (4, .int x4)] [] w (pV fun w2 => rS w w2 69 79 ∧ mO w2 nl dl fl ln md (nI (o + 1)) pl tk rq ∧ ∃ g2, w2.1 79 = some (.inl (0, 84, .inl g2)) ∧ (∀ t, (t < 14 * o + 2 ∨ 14 * o + 5 < t) → g2 t = g t) ∧ g2 (14 * o + 2) = x1 ∧ g2 (14 * o + 3) = x2 ∧ g2 (14 * o + 4) = x3 ∧ g2 (14 * o + 5) = x4) := by
  have h69 : w.1 69 = _ := h
  refine e_bipush_n 14 dd_Md_note_0 (by decide) ?_
  refine e_aload_n dd_Md_note_2 rfl ?_
  refine e_get dd_Md_note_3 kf_Md_127 h69 rfl ?_
  refine e_imul_n dd_Md_note_6 ?_
  refine e_istore (lv1 := [(0, .ref 69), (1, .int x1), (2, .int x2), (3, .int x3), (4, .int x4), (5, .int (nI (14 * o)))]) dd_Md_note_7 (by decide) rfl ?_
  refine e_aload_n dd_Md_note_9 rfl ?_
  refine e_get dd_Md_note_10 kf_Md_37 h69 rfl ?_
  refine e_iload dd_Md_note_13 rfl ?_
  refine e_iconst_n 2 dd_Md_note_15 (by decide) ?_
  refine e_iadd_n dd_Md_note_16 ?_
  refine e_iload_n dd_Md_note_17 rfl ?_
  refine e_iastx dd_Md_note_18 h79 rfl rfl (by omega) (by decide) (fun w11 h12n h12v h12f => ?_)
  refine e_aload_n dd_Md_note_19 rfl ?_
  refine e_get dd_Md_note_20 kf_Md_37 ((h12f _ (by decide)).trans h69) rfl ?_
  refine e_iload dd_Md_note_23 rfl ?_
  refine e_iconst_n 3 dd_Md_note_25 (by decide) ?_
  refine e_iadd_n dd_Md_note_26 ?_
  refine e_iload_n dd_Md_note_27 rfl ?_
  refine e_iastx dd_Md_note_28 h12v rfl rfl (by omega) (by decide) (fun w13 h14n h14v h14f => ?_)
  refine e_aload_n dd_Md_note_29 rfl ?_
  refine e_get dd_Md_note_30 kf_Md_37 ((h14f _ (by decide)).trans ((h12f _ (by decide)).trans h69)) rfl ?_
  refine e_iload dd_Md_note_33 rfl ?_
  refine e_iconst_n 4 dd_Md_note_35 (by decide) ?_
  refine e_iadd_n dd_Md_note_36 ?_
  refine e_iload_n dd_Md_note_37 rfl ?_
  refine e_iastx dd_Md_note_38 h14v rfl rfl (by omega) (by decide) (fun w15 h16n h16v h16f => ?_)
  refine e_aload_n dd_Md_note_39 rfl ?_
  refine e_get dd_Md_note_40 kf_Md_37 ((h16f _ (by decide)).trans ((h14f _ (by decide)).trans ((h12f _ (by decide)).trans h69))) rfl ?_
  refine e_iload dd_Md_note_43 rfl ?_
  refine e_iconst_n 5 dd_Md_note_45 (by decide) ?_
  refine e_iadd_n dd_Md_note_46 ?_
  refine e_iload dd_Md_note_47 rfl ?_
  refine e_iastx dd_Md_note_49 h16v rfl rfl (by omega) (by decide) (fun w17 h18n h18v h18f => ?_)
  refine e_aload_n dd_Md_note_50 rfl ?_
  refine e_dup dd_Md_note_51 rfl ?_
  refine e_get dd_Md_note_52 kf_Md_127 ((h18f _ (by decide)).trans ((h16f _ (by decide)).trans ((h14f _ (by decide)).trans ((h12f _ (by decide)).trans h69)))) rfl ?_
  refine e_iconst_n 1 dd_Md_note_55 (by decide) ?_
  refine e_iadd_n dd_Md_note_56 ?_
  refine e_putx (fs1 := [.int nl, .ref 70, .int dl, .ref 71, .int fl, .ref 72, .ref 73, .ref 74, .ref 75, .ref 76, .int ln, .ref 77, .int md, .ref 78, .int (nI (o + 1)), .ref 79, .int pl, .int tk, .ref 80, .int rq, .ref 81]) dd_Md_note_57 kf_Md_127 ((h18f _ (by decide)).trans ((h16f _ (by decide)).trans ((h14f _ (by decide)).trans ((h12f _ (by decide)).trans h69)))) (Nat.le_of_ble_eq_true rfl) rfl rfl rfl (fun w19 h20n h20v h20f => ?_)
  exact e_vret dd_Md_note_60 rfl (pV_of ⟨⟨h20n.trans (h18n.trans (h16n.trans (h14n.trans (h12n)))), fun j a b => (h20f j a).trans ((h18f j b).trans ((h16f j b).trans ((h14f j b).trans ((h12f j b)))))⟩, h20v, _, (h20f 79 (by decide)).trans h18v, fun t ht => by rw [upd_n (by omega), upd_n (by omega), upd_n (by omega), upd_n (by omega)], by rw [upd_n (by omega), upd_n (by omega), upd_n (by omega), upd_e], by rw [upd_n (by omega), upd_n (by omega), upd_e], by rw [upd_n (by omega), upd_e], upd_e⟩)
set_option maxRecDepth 100000 in
set_option maxHeartbeats 4000000 in
theorem l_Md_head {p B m K : Nat} (h : mO w nl dl fl ln md (nI o) pl tk rq) (hI : mA w 77 600 im) (ho : o ≤ 6) (hli : li ≤ im.length) (hp : p + 1 < li) (hB : o < 6 → B = 14 * o) (hK : im.getD (p + 1) 0 = K) (hK8 : K ≤ 8) : ∀ (r j : Nat) (w1 : ab_W) (acc : List Nat) (g1 : Nat → Int32) (x5 x6 : Int32), j + r = K → acc.length = j → rS w w1 79 79 → w1.1 79 = some (.inl (0, 84, .inl g1)) → hdG o g g1 m K acc → ab_E G mm_Md_head rr_Md_head 24 [(0, .ref 69), (1, .int (nI p)), (2, .int (nI li)), (3, .int (nI B)), (4, .int (nI (2 + j))), (5, .int x5), (6, .int x6)] [] w1 (rdP (rNm im li r (p + 2 + j) acc) (fun _ => 0) (hdF w nl dl fl ln md (nI o) tk rq) (fun nm w2 => rS w w2 79 79 ∧ ∃ g2, w2.1 79 = some (.inl (0, 84, .inl g2)) ∧ hdG o g g2 m K nm)) := by
  have hil := hI.1
  intro r
  induction r with
  | zero =>
    intro j w1 acc g1 x5 x6 hj ha hS h79 hG
    have h69 : w1.1 69 = _ := (hS.2 69 (by decide) (by decide)).trans h
    obtain ⟨-, hb, f77, h77, hf77⟩ := hI.keep (hS.2 77 (by decide) (by decide))
    refine e_iload dd_Md_head_24 rfl ?_
    refine e_iconst_n 2 dd_Md_head_26 (by decide) ?_
    refine e_icmp_lt_n (tgt := 45) dd_Md_head_27 (by decide) (by omega) (by omega) (fun h9 => absurd h9 (by omega)) (fun _ => ?_)
    refine e_iload dd_Md_head_30 rfl ?_
    refine e_iconst_n 2 dd_Md_head_32 (by decide) ?_
    refine e_aload_n dd_Md_head_33 rfl ?_
    refine e_get dd_Md_head_34 kf_Md_31 h69 rfl ?_
    refine e_iload_n dd_Md_head_37 rfl ?_
    refine e_iconst_n 1 dd_Md_head_38 (by decide) ?_
    refine e_iadd_n dd_Md_head_39 ?_
    refine e_iald dd_Md_head_40 h77 rfl rfl (by omega) (by decide) ?_
    refine e_top (y := nI K) (by rw [hf77 (p + 1) (by omega), hK]) ?_
    refine e_iadd_n dd_Md_head_41 ?_
    refine e_icmp_ge_n (tgt := 170) dd_Md_head_42 (by decide) (by omega) (by omega) (fun _ => ?_) (fun h9 => absurd h9 (by omega))
    refine e_iconst_n 0 dd_Md_head_170 (by decide) ?_
    exact e_iret dd_Md_head_171 rfl (rdS_of (v := fun _ => 0) ⟨hS, g1, h79, hG⟩)
  | succ r ih =>
    intro j w1 acc g1 x5 x6 hj ha hS h79 hG
    have h69 : w1.1 69 = _ := (hS.2 69 (by decide) (by decide)).trans h
    obtain ⟨-, hb, f77, h77, hf77⟩ := hI.keep (hS.2 77 (by decide) (by decide))
    refine e_iload dd_Md_head_24 rfl ?_
    refine e_iconst_n 2 dd_Md_head_26 (by decide) ?_
    refine e_icmp_lt_n (tgt := 45) dd_Md_head_27 (by decide) (by omega) (by omega) (fun h9 => absurd h9 (by omega)) (fun _ => ?_)
    refine e_iload dd_Md_head_30 rfl ?_
    refine e_iconst_n 2 dd_Md_head_32 (by decide) ?_
    refine e_aload_n dd_Md_head_33 rfl ?_
    refine e_get dd_Md_head_34 kf_Md_31 h69 rfl ?_
    refine e_iload_n dd_Md_head_37 rfl ?_
    refine e_iconst_n 1 dd_Md_head_38 (by decide) ?_
    refine e_iadd_n dd_Md_head_39 ?_
    refine e_iald dd_Md_head_40 h77 rfl rfl (by omega) (by decide) ?_
    refine e_top (y := nI K) (by rw [hf77 (p + 1) (by omega), hK]) ?_
    refine e_iadd_n dd_Md_head_41 ?_
    refine e_icmp_ge_n (tgt := 170) dd_Md_head_42 (by decide) (by omega) (by omega) (fun h9 => absurd h9 (by omega)) (fun _ => ?_)
    refine e_iload_n dd_Md_head_45 rfl ?_
    refine e_iload dd_Md_head_46 rfl ?_
    refine e_iadd_n dd_Md_head_48 ?_
    refine e_iload_n dd_Md_head_49 rfl ?_
    refine e_icmp_lt_n (tgt := 61) dd_Md_head_50 (by decide) (by omega) (by omega) (fun c50 => ?_) (fun c50 => ?_)
    · have hc : p + 2 + j < li := by omega
      have hv : f77 (p + (2 + j)) = nI (im.getD (p + 2 + j) 0) := by rw [hf77 _ (by omega), Nat.add_assoc]
      have hvb := getD_lt hb (j := p + 2 + j) (by omega)
      rw [rNm, if_pos hc]
      generalize im.getD (p + 2 + j) 0 = v at hv hvb
      refine e_aload_n dd_Md_head_61 rfl ?_
      refine e_get dd_Md_head_62 kf_Md_31 h69 rfl ?_
      refine e_iload_n dd_Md_head_65 rfl ?_
      refine e_iload dd_Md_head_66 rfl ?_
      refine e_iadd_n dd_Md_head_68 ?_
      refine e_iald dd_Md_head_69 h77 rfl rfl (by omega) (by decide) ?_
      refine e_top (y := nI v) hv ?_
      refine e_istore (lv1 := [(0, .ref 69), (1, .int (nI p)), (2, .int (nI li)), (3, .int (nI B)), (4, .int (nI (2 + j))), (5, .int (nI v)), (6, .int x6)]) dd_Md_head_70 (by decide) rfl ?_
      refine e_iload dd_Md_head_72 rfl ?_
      refine e_if_ne_n (tgt := 91) dd_Md_head_74 (by decide) (by omega) (fun _ => ?_) (fun h9 => absurd h9 (by omega))
      refine e_iload dd_Md_head_91 rfl ?_
      refine e_iconst_n 1 dd_Md_head_93 (by decide) ?_
      refine e_icmp_ne_n (tgt := 108) dd_Md_head_94 (by decide) (by omega) (by omega) (fun _ => ?_) (fun h9 => absurd h9 (by omega))
      refine e_iload dd_Md_head_108 rfl ?_
      refine e_callSp (d1 := rr_Md_sign) (As := [.int (nI v)]) (st := []) dd_Md_head_110 km_Md_54 (by decide) rfl (Nat.le_of_ble_eq_true rfl) (Nat.le_of_ble_eq_true rfl) rfl rfl (c_Md_sign (nI v)) ?_
      refine e_top (y := bI (nch v)) (congrArg bI (nchI_n (by omega))) ?_
      refine e_istore (lv1 := [(0, .ref 69), (1, .int (nI p)), (2, .int (nI li)), (3, .int (nI B)), (4, .int (nI (2 + j))), (5, .int (nI v)), (6, .int (bI (nch v)))]) dd_Md_head_113 (by decide) rfl ?_
      refine e_iload dd_Md_head_115 rfl ?_
      refine e_if_ne_b (tgt := 131) dd_Md_head_117 (by decide) (fun c117 => ?_) (fun c117 => ?_)
      · rw [if_pos c117]
        refine e_aload_n dd_Md_head_131 rfl ?_
        refine e_get dd_Md_head_132 kf_Md_127 h69 rfl ?_
        refine e_bipush_n 6 dd_Md_head_135 (by decide) ?_
        refine e_icmp_ge_n (tgt := 164) dd_Md_head_137 (by decide) (by omega) (by omega) (fun c137 => ?_) (fun c137 => ?_)
        · refine e_iinc_n (a := 2 + j) (k := 1) (lv1 := [(0, .ref 69), (1, .int (nI p)), (2, .int (nI li)), (3, .int (nI B)), (4, .int (nI (2 + j + 1))), (5, .int (nI v)), (6, .int (bI (nch v)))]) dd_Md_head_164 rfl (by decide) (by decide) rfl ?_
          refine e_goto (tgt := 24) dd_Md_head_167 (by decide) ?_
          have hR := ih (j + 1) w1 (acc ++ [v]) g1 (nI v) (bI (nch v)) (by omega) (by simp [ha]) hS h79 ⟨hG.1, fun h9 => by omega⟩
          exact hR
        · have hB := hB c137
          subst hB
          refine e_aload_n dd_Md_head_140 rfl ?_
          refine e_get dd_Md_head_141 kf_Md_37 h69 rfl ?_
          refine e_iload_n dd_Md_head_144 rfl ?_
          refine e_iload dd_Md_head_145 rfl ?_
          refine e_iconst_n 2 dd_Md_head_147 (by decide) ?_
          refine e_icmp_ge_n (tgt := 156) dd_Md_head_148 (by decide) (by omega) (by omega) (fun _ => ?_) (fun h9 => absurd h9 (by omega))
          refine e_iconst_n 4 dd_Md_head_156 (by decide) ?_
          refine e_iload dd_Md_head_157 rfl ?_
          refine e_iadd_n dd_Md_head_159 ?_
          refine e_iadd_n dd_Md_head_160 ?_
          refine e_iload dd_Md_head_161 rfl ?_
          refine e_iastx dd_Md_head_163 h79 rfl rfl (by omega) (by decide) (fun w31 h32n h32v h32f => ?_)
          refine e_iinc_n (a := 2 + j) (k := 1) (lv1 := [(0, .ref 69), (1, .int (nI p)), (2, .int (nI li)), (3, .int (nI (14 * o))), (4, .int (nI (2 + j + 1))), (5, .int (nI v)), (6, .int (bI (nch v)))]) dd_Md_head_164 rfl (by decide) (by decide) rfl ?_
          refine e_goto (tgt := 24) dd_Md_head_167 (by decide) ?_
          have hR := ih (j + 1) w31 (acc ++ [v]) _ (nI v) (bI (nch v)) (by omega) (by simp [ha]) ⟨h32n.trans hS.1, fun j a b => (h32f j a).trans (hS.2 j a b)⟩ h32v ⟨fun t ht => (upd_n (by omega)).trans (hG.1 t ht), fun h9 => ⟨(upd_n (by omega)).trans (hG.2 h9).1, (upd_n (by omega)).trans (hG.2 h9).2.1, fun i hi => ?_⟩⟩
          · exact hR
          · have hi2 : i < acc.length + 1 := by simpa using hi
            rw [getD_snoc]
            by_cases e : i = acc.length
            · rw [if_pos e, e, ha, show 14 * o + (6 + j) = 14 * o + (4 + (2 + j)) by omega]
              exact upd_e
            · rw [if_neg e, upd_n (by omega)]
              exact (hG.2 h9).2.2 i (by omega)
      · rw [if_neg (by rw [c117]; decide)]
        refine e_aload_n dd_Md_head_120 rfl ?_
        refine e_bipush (v := -4) dd_Md_head_121 (by decide) ?_
        refine e_iload_n dd_Md_head_123 rfl ?_
        refine e_iload dd_Md_head_124 rfl ?_
        refine e_iadd_n dd_Md_head_126 ?_
        refine e_callVi (d1 := rr_Md_stop) (As := [.int (-4), .int (nI (p + (2 + j)))]) (st := []) dd_Md_head_127 km_Md_130 h69 rfl (by decide) rfl (Nat.le_of_ble_eq_true rfl) (Nat.le_of_ble_eq_true rfl) rfl rfl (c_Md_stop h69 (-4) (nI (p + (2 + j)))) (fun v1 k1 => ?_)
        rw [show p + (2 + j) = p + 2 + j by omega] at k1
        exact e_iret dd_Md_head_130 rfl (rdF_of ⟨⟨k1.1.1.trans hS.1, fun j a b => (k1.1.2 j a a).trans (hS.2 j b b)⟩, k1.2, g1, (k1.1.2 79 (by decide) (by decide)).trans h79⟩)
    · have e : rNm im li (r + 1) (p + 2 + j) acc = .inl (-3, li) := by rw [rNm, if_neg (by omega)]
      rw [e]
      refine e_aload_n dd_Md_head_53 rfl ?_
      refine e_bipush (v := -3) dd_Md_head_54 (by decide) ?_
      refine e_iload_n dd_Md_head_56 rfl ?_
      refine e_callVi (d1 := rr_Md_stop) (As := [.int (-3), .int (nI li)]) (st := []) dd_Md_head_57 km_Md_130 h69 rfl (by decide) rfl (Nat.le_of_ble_eq_true rfl) (Nat.le_of_ble_eq_true rfl) rfl rfl (c_Md_stop h69 (-3) (nI li)) (fun v1 k1 => ?_)
      exact e_iret dd_Md_head_60 rfl (rdF_of ⟨⟨k1.1.1.trans hS.1, fun j a b => (k1.1.2 j a a).trans (hS.2 j b b)⟩, k1.2, g1, (k1.1.2 79 (by decide) (by decide)).trans h79⟩)
end MD
