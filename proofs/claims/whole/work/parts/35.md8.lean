/-! The reference: head, entries. -/
theorem e_mono {G : ab_G} {M : ab_M} {d : Nat × Nat} {pc : Nat} {lv : List (Nat × Value)} {st : List Value} {w : ab_W} {P Q : Option Value → ab_W → Prop} (h : ab_E G M d pc lv st w P) (hp : ∀ r w2, P r w2 → Q r w2) : ab_E G M d pc lv st w Q := by
  obtain ⟨r, w2, h1, h2, h3⟩ := h
  exact ⟨r, w2, h1, h2, hp r w2 h3⟩
def r2 (m : Nat) (o : Rd (List Nat)) : Rd (Nat × List Nat) := match o with
  | .inl e => .inl e
  | .inr nm => .inr (m, nm)
def r1 (im : List Nat) (li p m : Nat) : Rd (Nat × List Nat) := match rBt im li (p + 1) 1 8 with
  | .inl e => .inl e
  | .inr k => r2 m (rNm im li k (p + 2) [])
theorem rMN_1 (im : List Nat) (li p : Nat) : rMN im li p = match rBt im li p 0 2 with
    | .inl e => .inl e
    | .inr m => r1 im li p m := by
  rw [rMN]
  cases rBt im li p 0 2 with
  | inl e => rfl
  | inr m =>
    show _ = r1 im li p m
    rw [r1]
    dsimp only
    cases rBt im li (p + 1) 1 8 with
    | inl e => rfl
    | inr k =>
      show _ = r2 m _
      dsimp only
      cases rNm im li k (p + 2) [] with
      | inl e => rfl
      | inr nm => rfl
section MD
variable {G : ab_G} {w : ab_W} {nl dl fl ln md op pl tk rq : Int32} {xs ds im : List Nat} {i o li : Nat} {g : Nat → Int32}
set_option maxRecDepth 100000 in
set_option maxHeartbeats 4000000 in
theorem l_Md_head1 {p B m : Nat} (h : mO w nl dl fl ln md (nI o) pl tk rq) (hI : mA w 77 600 im) (ho : o ≤ 6) (hli : li ≤ im.length) (hp : p < li) (hB : o < 6 → B = 14 * o) (w1 : ab_W) (g1 : Nat → Int32) (x5 x6 : Int32) (hS : rS w w1 79 79) (h79 : w1.1 79 = some (.inl (0, 84, .inl g1))) (hG1 : ∀ t, t < 14 * o → g1 t = g t) (hG2 : o < 6 → g1 (14 * o + 0) = nI m) : ab_E G mm_Md_head rr_Md_head 24 [(0, .ref 69), (1, .int (nI p)), (2, .int (nI li)), (3, .int (nI B)), (4, .int (nI 1)), (5, .int x5), (6, .int x6)] [] w1 (rdP (r1 im li p m) (fun _ => 0) (hdF w nl dl fl ln md (nI o) tk rq) (hdS w o g)) := by
  have hil := hI.1
  have h69 : w1.1 69 = _ := (hS.2 69 (by decide) (by decide)).trans h
  obtain ⟨-, hb, f77, h77, hf77⟩ := hI.keep (hS.2 77 (by decide) (by decide))
  have hback : ∀ (K : Nat) (w3 : ab_W) (g3 : Nat → Int32) (y5 y6 : Int32), rBt im li (p + 1) 1 8 = .inr K → rS w w3 79 79 → w3.1 79 = some (.inl (0, 84, .inl g3)) → hdG o g g3 m K [] → ab_E G mm_Md_head rr_Md_head 24 [(0, .ref 69), (1, .int (nI p)), (2, .int (nI li)), (3, .int (nI B)), (4, .int (nI 2)), (5, .int y5), (6, .int y6)] [] w3 (rdP (r1 im li p m) (fun _ => 0) (hdF w nl dl fl ln md (nI o) tk rq) (hdS w o g)) := fun K w3 g3 y5 y6 hK q1 q2 q3 => by
    obtain ⟨k1, k2, k3, k4⟩ := rBt_S hK
    refine e_mono (l_Md_head (K := K) (m := m) (g := g) h hI ho hli k1 hB k2.symm k4 K 0 w3 [] g3 y5 y6 (by omega) rfl q1 q2 q3) (fun r w2 hP => ?_)
    rw [r1, hK]
    dsimp only
    cases hN : rNm im li K (p + 2 + 0) [] with
    | inl e =>
      rw [rdP_F hN] at hP
      exact hP
    | inr nm =>
      rw [rdP_S hN] at hP
      rw [Nat.add_zero] at hN
      obtain ⟨z1, z2, g2, z3, z4⟩ := hP
      have hl : nm.length = K := by
        have := (rNm_S K (p + 2) [] hN).1
        simpa using this
      exact ⟨z1, z2, g2, z3, by rw [hl]; exact z4⟩
  refine e_iload dd_Md_head_24 rfl ?_
  refine e_iconst_n 2 dd_Md_head_26 (by decide) ?_
  refine e_icmp_lt_n (tgt := 45) dd_Md_head_27 (by decide) (by omega) (by omega) (fun _ => ?_) (fun h9 => absurd h9 (by decide))
  refine e_iload_n dd_Md_head_45 rfl ?_
  refine e_iload dd_Md_head_46 rfl ?_
  refine e_iadd_n dd_Md_head_48 ?_
  refine e_iload_n dd_Md_head_49 rfl ?_
  refine e_icmp_lt_n (tgt := 61) dd_Md_head_50 (by decide) (by omega) (by omega) (fun c50 => ?_) (fun c50 => ?_)
  · have hv : f77 (p + 1) = nI (im.getD (p + 1) 0) := hf77 _ (by omega)
    have hvb := getD_lt hb (j := p + 1) (by omega)
    have er : rBt im li (p + 1) 1 8 = if im.getD (p + 1) 0 < 1 ∨ 8 < im.getD (p + 1) 0 then .inl (-4, p + 1) else .inr (im.getD (p + 1) 0) := by rw [rBt, if_pos c50]
    generalize im.getD (p + 1) 0 = v at hv hvb er
    refine e_aload_n dd_Md_head_61 rfl ?_
    refine e_get dd_Md_head_62 kf_Md_31 h69 rfl ?_
    refine e_iload_n dd_Md_head_65 rfl ?_
    refine e_iload dd_Md_head_66 rfl ?_
    refine e_iadd_n dd_Md_head_68 ?_
    refine e_iald dd_Md_head_69 h77 rfl rfl (by omega) (by decide) ?_
    refine e_top (y := nI v) hv ?_
    refine e_istore (lv1 := [(0, .ref 69), (1, .int (nI p)), (2, .int (nI li)), (3, .int (nI B)), (4, .int (nI 1)), (5, .int (nI v)), (6, .int x6)]) dd_Md_head_70 (by decide) rfl ?_
    refine e_iload dd_Md_head_72 rfl ?_
    refine e_if_ne_n (tgt := 91) dd_Md_head_74 (by decide) (by omega) (fun _ => ?_) (fun h9 => absurd h9 (by decide))
    refine e_iload dd_Md_head_91 rfl ?_
    refine e_iconst_n 1 dd_Md_head_93 (by decide) ?_
    refine e_icmp_ne_n (tgt := 108) dd_Md_head_94 (by decide) (by omega) (by omega) (fun h9 => absurd h9 (by decide)) (fun _ => ?_)
    refine e_iload dd_Md_head_97 rfl ?_
    refine e_iconst_n 1 dd_Md_head_99 (by decide) ?_
    refine e_bipush_n 8 dd_Md_head_100 (by decide) ?_
    refine e_callSp (d1 := rr_Md_in) (As := [.int (nI v), .int (nI 1), .int (nI 8)]) (st := []) dd_Md_head_102 km_Md_50 (by decide) rfl (Nat.le_of_ble_eq_true rfl) (Nat.le_of_ble_eq_true rfl) rfl rfl (c_Md_in (nI v) (nI 1) (nI 8)) ?_
    refine e_top (y := bI (decide (1 ≤ v ∧ v ≤ 8))) (congrArg bI (decide_eq_decide.mpr (and_congr (nI_leI (by decide) (by omega)) (nI_leI (by omega) (by decide))))) ?_
    refine e_goto (tgt := 113) dd_Md_head_105 (by decide) ?_
    refine e_istore (lv1 := [(0, .ref 69), (1, .int (nI p)), (2, .int (nI li)), (3, .int (nI B)), (4, .int (nI 1)), (5, .int (nI v)), (6, .int (bI (decide (1 ≤ v ∧ v ≤ 8))))]) dd_Md_head_113 (by decide) rfl ?_
    refine e_iload dd_Md_head_115 rfl ?_
    refine e_if_ne_b (tgt := 131) dd_Md_head_117 (by decide) (fun c117 => ?_) (fun c117 => ?_)
    · have c117 := of_decide_eq_true c117
      rw [if_neg (by omega)] at er
      refine e_aload_n dd_Md_head_131 rfl ?_
      refine e_get dd_Md_head_132 kf_Md_127 h69 rfl ?_
      refine e_bipush_n 6 dd_Md_head_135 (by decide) ?_
      refine e_icmp_ge_n (tgt := 164) dd_Md_head_137 (by decide) (by omega) (by omega) (fun c137 => ?_) (fun c137 => ?_)
      · refine e_iinc_n (a := 1) (k := 1) (lv1 := [(0, .ref 69), (1, .int (nI p)), (2, .int (nI li)), (3, .int (nI B)), (4, .int (nI (1 + 1))), (5, .int (nI v)), (6, .int (bI (decide (1 ≤ v ∧ v ≤ 8))))]) dd_Md_head_164 rfl (by decide) (by decide) rfl ?_
        refine e_goto (tgt := 24) dd_Md_head_167 (by decide) ?_
        exact hback v w1 g1 _ _ er hS h79 ⟨hG1, fun h9 => by omega⟩
      · have hB2 := hB c137
        subst hB2
        refine e_aload_n dd_Md_head_140 rfl ?_
        refine e_get dd_Md_head_141 kf_Md_37 h69 rfl ?_
        refine e_iload_n dd_Md_head_144 rfl ?_
        refine e_iload dd_Md_head_145 rfl ?_
        refine e_iconst_n 2 dd_Md_head_147 (by decide) ?_
        refine e_icmp_ge_n (tgt := 156) dd_Md_head_148 (by decide) (by omega) (by omega) (fun h9 => absurd h9 (by decide)) (fun _ => ?_)
        refine e_iload dd_Md_head_151 rfl ?_
        refine e_goto (tgt := 160) dd_Md_head_153 (by decide) ?_
        refine e_iadd_n dd_Md_head_160 ?_
        refine e_iload dd_Md_head_161 rfl ?_
        refine e_iastx dd_Md_head_163 h79 rfl rfl (by omega) (by decide) (fun w31 h32n h32v h32f => ?_)
        refine e_iinc_n (a := 1) (k := 1) (lv1 := [(0, .ref 69), (1, .int (nI p)), (2, .int (nI li)), (3, .int (nI (14 * o))), (4, .int (nI (1 + 1))), (5, .int (nI v)), (6, .int (bI (decide (1 ≤ v ∧ v ≤ 8))))]) dd_Md_head_164 rfl (by decide) (by decide) rfl ?_
        refine e_goto (tgt := 24) dd_Md_head_167 (by decide) ?_
        exact hback v w31 _ _ _ er ⟨h32n.trans hS.1, fun j a b => (h32f j a).trans (hS.2 j a b)⟩ h32v ⟨fun t ht => (upd_n (by omega)).trans (hG1 t ht), fun h9 => ⟨(upd_n (by omega)).trans (hG2 h9), upd_e, fun i hi => absurd hi (Nat.not_lt_zero i)⟩⟩
    · have c117 := of_decide_eq_false c117
      rw [if_pos (by omega)] at er
      have e1 : r1 im li p m = .inl (-4, p + 1) := by rw [r1, er]
      rw [e1]
      refine e_aload_n dd_Md_head_120 rfl ?_
      refine e_bipush (v := -4) dd_Md_head_121 (by decide) ?_
      refine e_iload_n dd_Md_head_123 rfl ?_
      refine e_iload dd_Md_head_124 rfl ?_
      refine e_iadd_n dd_Md_head_126 ?_
      refine e_callVi (d1 := rr_Md_stop) (As := [.int (-4), .int (nI (p + 1))]) (st := []) dd_Md_head_127 km_Md_130 h69 rfl (by decide) rfl (Nat.le_of_ble_eq_true rfl) (Nat.le_of_ble_eq_true rfl) rfl rfl (c_Md_stop h69 (-4) (nI (p + 1))) (fun v1 k1 => ?_)
      exact e_iret dd_Md_head_130 rfl (rdF_of ⟨⟨k1.1.1.trans hS.1, fun j a b => (k1.1.2 j a a).trans (hS.2 j b b)⟩, k1.2, _, (k1.1.2 79 (by decide) (by decide)).trans h79⟩)
  · have e1 : r1 im li p m = .inl (-3, li) := by rw [r1, rBt, if_neg (by omega)]
    rw [e1]
    refine e_aload_n dd_Md_head_53 rfl ?_
    refine e_bipush (v := -3) dd_Md_head_54 (by decide) ?_
    refine e_iload_n dd_Md_head_56 rfl ?_
    refine e_callVi (d1 := rr_Md_stop) (As := [.int (-3), .int (nI li)]) (st := []) dd_Md_head_57 km_Md_130 h69 rfl (by decide) rfl (Nat.le_of_ble_eq_true rfl) (Nat.le_of_ble_eq_true rfl) rfl rfl (c_Md_stop h69 (-3) (nI li)) (fun v1 k1 => ?_)
    exact e_iret dd_Md_head_60 rfl (rdF_of ⟨⟨k1.1.1.trans hS.1, fun j a b => (k1.1.2 j a a).trans (hS.2 j b b)⟩, k1.2, _, (k1.1.2 79 (by decide) (by decide)).trans h79⟩)
set_option maxRecDepth 100000 in
set_option maxHeartbeats 4000000 in
theorem l_Md_head0 {p B : Nat} (h : mO w nl dl fl ln md (nI o) pl tk rq) (hI : mA w 77 600 im) (h79 : w.1 79 = some (.inl (0, 84, .inl g))) (ho : o ≤ 6) (hli : li ≤ im.length) (hp0 : p < 100000) (hB : o < 6 → B = 14 * o) : ab_E G mm_Md_head rr_Md_head 24 [(0, .ref 69), (1, .int (nI p)), (2, .int (nI li)), (3, .int (nI B)), (4, .int (nI 0))] [] w (rdP (rMN im li p) (fun _ => 0) (hdF w nl dl fl ln md (nI o) tk rq) (hdS w o g)) := by
  have hil := hI.1
  have h69 : w.1 69 = _ := h
  have hS : rS w w 79 79 := rS.rf
  obtain ⟨-, hb, f77, h77, hf77⟩ := id hI
  rw [rMN_1]
  refine e_iload dd_Md_head_24 rfl ?_
  refine e_iconst_n 2 dd_Md_head_26 (by decide) ?_
  refine e_icmp_lt_n (tgt := 45) dd_Md_head_27 (by decide) (by omega) (by omega) (fun _ => ?_) (fun h9 => absurd h9 (by decide))
  refine e_iload_n dd_Md_head_45 rfl ?_
  refine e_iload dd_Md_head_46 rfl ?_
  refine e_iadd_n dd_Md_head_48 ?_
  refine e_iload_n dd_Md_head_49 rfl ?_
  refine e_icmp_lt_n (tgt := 61) dd_Md_head_50 (by decide) (by omega) (by omega) (fun c50 => ?_) (fun c50 => ?_)
  · have hp : p < li := c50
    have hv : f77 (p + 0) = nI (im.getD p 0) := hf77 _ (by omega)
    have hvb := getD_lt hb (j := p) (by omega)
    have er : rBt im li p 0 2 = if im.getD p 0 < 0 ∨ 2 < im.getD p 0 then .inl (-4, p) else .inr (im.getD p 0) := by rw [rBt, if_pos hp]
    generalize im.getD p 0 = v at hv hvb er
    refine e_aload_n dd_Md_head_61 rfl ?_
    refine e_get dd_Md_head_62 kf_Md_31 h69 rfl ?_
    refine e_iload_n dd_Md_head_65 rfl ?_
    refine e_iload dd_Md_head_66 rfl ?_
    refine e_iadd_n dd_Md_head_68 ?_
    refine e_iald dd_Md_head_69 h77 rfl rfl (by omega) (by decide) ?_
    refine e_top (y := nI v) hv ?_
    refine e_istore (lv1 := [(0, .ref 69), (1, .int (nI p)), (2, .int (nI li)), (3, .int (nI B)), (4, .int (nI 0)), (5, .int (nI v))]) dd_Md_head_70 (by decide) rfl ?_
    refine e_iload dd_Md_head_72 rfl ?_
    refine e_if_ne_n (tgt := 91) dd_Md_head_74 (by decide) (by omega) (fun h9 => absurd h9 (by decide)) (fun _ => ?_)
    refine e_iload dd_Md_head_77 rfl ?_
    refine e_iconst_n 3 dd_Md_head_79 (by decide) ?_
    refine e_icmp_ge_n (tgt := 87) dd_Md_head_80 (by decide) (by omega) (by omega) (fun c80 => ?_) (fun c80 => ?_)
    · rw [if_pos (by omega)] at er
      rw [er]
      refine e_iconst_n 0 dd_Md_head_87 (by decide) ?_
      refine e_goto (tgt := 113) dd_Md_head_88 (by decide) ?_
      refine e_istore (lv1 := [(0, .ref 69), (1, .int (nI p)), (2, .int (nI li)), (3, .int (nI B)), (4, .int (nI 0)), (5, .int (nI v)), (6, .int (nI 0))]) dd_Md_head_113 (by decide) rfl ?_
      refine e_iload dd_Md_head_115 rfl ?_
      refine e_if_ne_n (tgt := 131) dd_Md_head_117 (by decide) (by omega) (fun h9 => absurd h9 (by decide)) (fun _ => ?_)
      refine e_aload_n dd_Md_head_120 rfl ?_
      refine e_bipush (v := -4) dd_Md_head_121 (by decide) ?_
      refine e_iload_n dd_Md_head_123 rfl ?_
      refine e_iload dd_Md_head_124 rfl ?_
      refine e_iadd_n dd_Md_head_126 ?_
      refine e_callVi (d1 := rr_Md_stop) (As := [.int (-4), .int (nI (p + 0))]) (st := []) dd_Md_head_127 km_Md_130 h69 rfl (by decide) rfl (Nat.le_of_ble_eq_true rfl) (Nat.le_of_ble_eq_true rfl) rfl rfl (c_Md_stop h69 (-4) (nI (p + 0))) (fun v1 k1 => ?_)
      exact e_iret dd_Md_head_130 rfl (rdF_of ⟨⟨k1.1.1.trans hS.1, fun j a b => (k1.1.2 j a a).trans (hS.2 j b b)⟩, k1.2, _, (k1.1.2 79 (by decide) (by decide)).trans h79⟩)
    · rw [if_neg (by omega)] at er
      rw [er]
      refine e_iconst_n 1 dd_Md_head_83 (by decide) ?_
      refine e_goto (tgt := 113) dd_Md_head_84 (by decide) ?_
      refine e_istore (lv1 := [(0, .ref 69), (1, .int (nI p)), (2, .int (nI li)), (3, .int (nI B)), (4, .int (nI 0)), (5, .int (nI v)), (6, .int (nI 1))]) dd_Md_head_113 (by decide) rfl ?_
      refine e_iload dd_Md_head_115 rfl ?_
      refine e_if_ne_n (tgt := 131) dd_Md_head_117 (by decide) (by omega) (fun _ => ?_) (fun h9 => absurd h9 (by decide))
      refine e_aload_n dd_Md_head_131 rfl ?_
      refine e_get dd_Md_head_132 kf_Md_127 h69 rfl ?_
      refine e_bipush_n 6 dd_Md_head_135 (by decide) ?_
      refine e_icmp_ge_n (tgt := 164) dd_Md_head_137 (by decide) (by omega) (by omega) (fun c137 => ?_) (fun c137 => ?_)
      · refine e_iinc_n (a := 0) (k := 1) (lv1 := [(0, .ref 69), (1, .int (nI p)), (2, .int (nI li)), (3, .int (nI B)), (4, .int (nI (0 + 1))), (5, .int (nI v)), (6, .int (nI 1))]) dd_Md_head_164 rfl (by decide) (by decide) rfl ?_
        refine e_goto (tgt := 24) dd_Md_head_167 (by decide) ?_
        exact l_Md_head1 h hI ho hli hp hB w g _ _ rS.rf h79 (fun t _ => rfl) (fun h9 => by omega)
      · have hB2 := hB c137
        subst hB2
        refine e_aload_n dd_Md_head_140 rfl ?_
        refine e_get dd_Md_head_141 kf_Md_37 h69 rfl ?_
        refine e_iload_n dd_Md_head_144 rfl ?_
        refine e_iload dd_Md_head_145 rfl ?_
        refine e_iconst_n 2 dd_Md_head_147 (by decide) ?_
        refine e_icmp_ge_n (tgt := 156) dd_Md_head_148 (by decide) (by omega) (by omega) (fun h9 => absurd h9 (by decide)) (fun _ => ?_)
        refine e_iload dd_Md_head_151 rfl ?_
        refine e_goto (tgt := 160) dd_Md_head_153 (by decide) ?_
        refine e_iadd_n dd_Md_head_160 ?_
        refine e_iload dd_Md_head_161 rfl ?_
        refine e_iastx dd_Md_head_163 h79 rfl rfl (by omega) (by decide) (fun w31 h32n h32v h32f => ?_)
        refine e_iinc_n (a := 0) (k := 1) (lv1 := [(0, .ref 69), (1, .int (nI p)), (2, .int (nI li)), (3, .int (nI (14 * o))), (4, .int (nI (0 + 1))), (5, .int (nI v)), (6, .int (nI 1))]) dd_Md_head_164 rfl (by decide) (by decide) rfl ?_
        refine e_goto (tgt := 24) dd_Md_head_167 (by decide) ?_
        exact l_Md_head1 h hI ho hli hp hB w31 _ _ _ ⟨h32n, fun j a _ => h32f j a⟩ h32v (fun t ht => upd_n (by omega)) (fun _ => upd_e)
  · have er : rBt im li p 0 2 = .inl (-3, li) := by rw [rBt, if_neg (show ¬ p < li from Nat.not_lt.mpr c50)]
    rw [er]
    refine e_aload_n dd_Md_head_53 rfl ?_
    refine e_bipush (v := -3) dd_Md_head_54 (by decide) ?_
    refine e_iload_n dd_Md_head_56 rfl ?_
    refine e_callVi (d1 := rr_Md_stop) (As := [.int (-3), .int (nI li)]) (st := []) dd_Md_head_57 km_Md_130 h69 rfl (by decide) rfl (Nat.le_of_ble_eq_true rfl) (Nat.le_of_ble_eq_true rfl) rfl rfl (c_Md_stop h69 (-3) (nI li)) (fun v1 k1 => ?_)
    exact e_iret dd_Md_head_60 rfl (rdF_of ⟨⟨k1.1.1.trans hS.1, fun j a b => (k1.1.2 j a a).trans (hS.2 j b b)⟩, k1.2, _, (k1.1.2 79 (by decide) (by decide)).trans h79⟩)
set_option maxRecDepth 100000 in
set_option maxHeartbeats 4000000 in
theorem c_Md_head {p : Nat} (h : mO w nl dl fl ln md (nI o) pl tk rq) (hI : mA w 77 600 im) (h79 : w.1 79 = some (.inl (0, 84, .inl g))) (ho : o ≤ 6) (hli : li ≤ im.length) (hp0 : p < 100000) : ab_E G mm_Md_head rr_Md_head 0 [(0, .ref 69), (1, .int (nI p)), (2, .int (nI li))] [] w (rdP (rMN im li p) (fun _ => 0) (hdF w nl dl fl ln md (nI o) tk rq) (hdS w o g)) := by
  have h69 : w.1 69 = _ := h
  refine e_bipush_n 14 dd_Md_head_0 (by decide) ?_
  refine e_aload_n dd_Md_head_2 rfl ?_
  refine e_get dd_Md_head_3 kf_Md_127 h69 rfl ?_
  refine e_bipush_n 6 dd_Md_head_6 (by decide) ?_
  refine e_icmp_ge_n (tgt := 18) dd_Md_head_8 (by decide) (by omega) (by omega) (fun c8 => ?_) (fun c8 => ?_)
  · refine e_iconst_n 5 dd_Md_head_18 (by decide) ?_
    refine e_imul_n dd_Md_head_19 ?_
    refine e_istore_n (lv1 := [(0, .ref 69), (1, .int (nI p)), (2, .int (nI li)), (3, .int (nI (14 * 5)))]) dd_Md_head_20 (by decide) rfl ?_
    refine e_iconst_n 0 dd_Md_head_21 (by decide) ?_
    refine e_istore (lv1 := [(0, .ref 69), (1, .int (nI p)), (2, .int (nI li)), (3, .int (nI (14 * 5))), (4, .int (nI 0))]) dd_Md_head_22 (by decide) rfl ?_
    exact l_Md_head0 h hI h79 ho hli hp0 (fun h9 => by omega)
  · refine e_aload_n dd_Md_head_11 rfl ?_
    refine e_get dd_Md_head_12 kf_Md_127 h69 rfl ?_
    refine e_goto (tgt := 19) dd_Md_head_15 (by decide) ?_
    refine e_imul_n dd_Md_head_19 ?_
    refine e_istore_n (lv1 := [(0, .ref 69), (1, .int (nI p)), (2, .int (nI li)), (3, .int (nI (14 * o)))]) dd_Md_head_20 (by decide) rfl ?_
    refine e_iconst_n 0 dd_Md_head_21 (by decide) ?_
    refine e_istore (lv1 := [(0, .ref 69), (1, .int (nI p)), (2, .int (nI li)), (3, .int (nI (14 * o))), (4, .int (nI 0))]) dd_Md_head_22 (by decide) rfl ?_
    exact l_Md_head0 h hI h79 ho hli hp0 (fun h9 => rfl)
theorem rEn_2 {d c : Nat} {q : Nat × List Nat} (h : rMN im li c = .inr q) {Q : Nat} (hQ : Q = c + 2 + q.2.length) : rEn im li d c = if Q + 2 < li ∧ (nm2 im Q < 1 ∨ d < nm2 im Q + im.getD (Q + 2) 0) then .inl (-4, Q) else if Q + 3 < li ∧ 60 < im.getD (Q + 3) 0 then .inl (-4, Q + 3) else if li ≤ Q + 5 then .inl (-3, li) else .inr (q.2, q.1, nm2 im Q, im.getD (Q + 2) 0, im.getD (Q + 3) 0, nm2 im (Q + 4)) := by
  rw [rEn, h]
  dsimp only
  rw [← hQ, show c + 4 + q.2.length = Q + 2 by omega, show c + 5 + q.2.length = Q + 3 by omega]
  by_cases h1 : Q + 1 < li
  · have e1 : rNum im li Q = .inr (nm2 im Q) := by rw [rNum, if_pos h1]; rfl
    rw [e1]
    dsimp only
    by_cases h2 : Q + 2 < li
    · have e2 : rB im li (Q + 2) = .inr (im.getD (Q + 2) 0) := by rw [rB, if_pos h2]
      rw [e2]
      dsimp only
      by_cases h3 : nm2 im Q < 1 ∨ d < nm2 im Q + im.getD (Q + 2) 0
      · rw [if_pos h3, if_pos ⟨h2, h3⟩]
      · rw [if_neg h3, if_neg (fun h9 => h3 h9.2), rLC]
        by_cases h4 : Q + 3 < li
        · by_cases h5 : 60 < im.getD (Q + 3) 0
          · rw [if_pos ⟨h4, h5⟩, rBt, if_pos h4, if_pos (Or.inr h5)]
          · rw [if_neg (fun h9 => h5 h9.2), rBt, if_pos h4, if_neg (by omega)]
            dsimp only
            by_cases h6 : li ≤ Q + 5
            · rw [if_pos h6, rNum, if_neg (by omega)]
            · rw [if_neg h6, rNum, if_pos (by omega)]
              rfl
        · rw [if_neg (fun h9 => h4 h9.1), if_pos (by omega), rBt, if_neg h4]
    · rw [if_neg (fun h9 => h2 h9.1), if_neg (fun h9 => by omega), if_pos (by omega), rB, if_neg h2]
  · rw [if_neg (fun h9 => by omega), if_neg (fun h9 => by omega), if_pos (by omega), rNum, if_neg h1]
theorem rRH_2 {b : Nat} {q : Nat × List Nat} (h : rMN im li (b + 1) = .inr q) {Q : Nat} (hQ : Q = b + 3 + q.2.length) : rRH im li b = if Q + 1 < li ∧ 60 < im.getD (Q + 1) 0 then .inl (-4, Q + 1) else if li ≤ Q + 4 then .inl (-3, li) else if sumT im b (Q + 4 - b) ≠ im.getD (Q + 4) 0 then .inl (-4, Q + 4) else .inr (q.2, q.1, im.getD Q 0, im.getD (Q + 1) 0, nm2 im (Q + 2)) := by
  rw [rRH, h]
  dsimp only
  rw [← hQ, show b + 4 + q.2.length = Q + 1 by omega, show b + 7 + q.2.length = Q + 4 by omega, show 7 + q.2.length = Q + 4 - b by omega]
  by_cases h1 : Q < li
  · have e1 : rB im li Q = .inr (im.getD Q 0) := by rw [rB, if_pos h1]
    rw [e1]
    dsimp only
    rw [rLC]
    by_cases h2 : Q + 1 < li
    · by_cases h3 : 60 < im.getD (Q + 1) 0
      · rw [if_pos ⟨h2, h3⟩, rBt, if_pos h2, if_pos (Or.inr h3)]
      · rw [if_neg (fun h9 => h3 h9.2), rBt, if_pos h2, if_neg (by omega)]
        dsimp only
        by_cases h4 : Q + 1 + 1 + 1 < li
        · rw [rNum, if_pos h4]
          dsimp only
          by_cases h5 : Q + 4 < li
          · rw [if_neg (by omega), rBt, if_pos h5]
            by_cases h6 : sumT im b (Q + 4 - b) ≠ im.getD (Q + 4) 0
            · rw [if_pos h6, if_pos (by omega)]
            · rw [if_neg h6, if_neg (by omega)]
              rfl
          · rw [if_pos (by omega), rBt, if_neg h5]
        · rw [if_pos (by omega), rNum, if_neg h4]
    · rw [if_neg (fun h9 => h2 h9.1), if_pos (by omega), rBt, if_neg h2]
  · rw [if_neg (fun h9 => by omega), if_pos (by omega), rB, if_neg h1]
theorem acc_snocP {acc : List FO} {q : FO} {g g1 g2 : Nat → Int32} {len : Nat} (hop : ∀ (j : Nat) (q : FO), acc[j]? = some q → opI g j q) (hok : ∀ q ∈ acc, foOK len q) (h6 : acc.length < 6) (hG : hdG acc.length g g1 q.2.1 q.1.length q.1) (hn : ∀ t, (t < 14 * acc.length + 2 ∨ 14 * acc.length + 5 < t) → g2 t = g1 t) (n2 : g2 (14 * acc.length + 2) = nI q.2.2.1) (n3 : g2 (14 * acc.length + 3) = nI q.2.2.2.1) (n4 : g2 (14 * acc.length + 4) = nI q.2.2.2.2.1) (n5 : g2 (14 * acc.length + 5) = nI q.2.2.2.2.2) : ∀ (j : Nat) (p : FO), (acc ++ [q])[j]? = some p → opI g2 j p := fun j p hp => by
  by_cases hj : j < acc.length
  · rw [List.getElem?_append_left hj] at hp
    exact (hop j p hp).far (hok p (List.mem_of_getElem? hp)).2.1 (fun t ht => (hn t (by omega)).trans (hG.1 t (by omega)))
  · have hj2 : j = acc.length := by
      have := (List.getElem?_eq_some_iff.mp hp).1
      simp at this
      omega
    subst hj2
    rw [List.getElem?_append_right (Nat.le_refl _), Nat.sub_self] at hp
    cases hp
    obtain ⟨a1, a2, a3⟩ := hG.2 h6
    exact ⟨(hn _ (by omega)).trans a1, (hn _ (by omega)).trans a2, n2, n3, n4, n5, fun i hi => (hn _ (by omega)).trans (a3 i hi)⟩
end MD
