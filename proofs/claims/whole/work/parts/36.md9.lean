/-! The reference: opening. -/
def oF (w : ab_W) (nl dl fl ln md tk rq : Int32) : Nat → ab_W → Prop := fun pl w2 => rS w w2 69 79 ∧ (∃ o, mO w2 nl dl fl ln md o (nI pl) tk rq) ∧ ∃ g, w2.1 79 = some (.inl (0, 84, .inl g))
def oS (w : ab_W) (nl dl fl ln md tk rq : Int32) (len : Nat) : List FO → ab_W → Prop := fun acc w2 => rS w w2 69 79 ∧ mO w2 nl dl fl ln md (nI acc.length) (-1) tk rq ∧ mP w2 acc len
theorem nx4_div (e : Nat) : (e + 3) / 4 * 4 = nx4 e := by rw [nx4]; omega
theorem neg_ne {x : Int32} (h : x < 0) : ¬ x = 0 := fun e => by rw [e] at h; exact absurd h (by decide)
theorem mO.w79 {w w2 : ab_W} {nl dl fl ln md op pl tk rq : Int32} (h : mO w nl dl fl ln md op pl tk rq) (hS : rS w w2 79 79) : mO w2 nl dl fl ln md op pl tk rq := (hS.2 69 (by decide) (by decide)).trans h
section MD
variable {G : ab_G} {w : ab_W} {nl dl fl ln md op pl tk rq : Int32} {xs ds im : List Nat} {i o li : Nat} {g : Nat → Int32}
set_option maxRecDepth 100000 in
set_option maxHeartbeats 4000000 in
theorem l_Md_csum {c Q : Nat} {P : Option Value → ab_W → Prop} (h : mO w nl dl fl ln md op pl tk rq) (hI : mA w 77 600 im) (hQ : Q + 4 < im.length) (R : Nat) (K : ab_E G mm_Md_openChain rr_Md_openChain 165 [(0, .ref 69), (1, .int (nI c)), (2, .int (nI c)), (3, .int (nI 0)), (4, .int (nI Q)), (5, .int (nI R)), (6, .int (nI (Q + 4)))] [] w P) : ∀ n j s, j + n = Q + 4 → s ≤ 256 * j → sN im s j n = R → ab_E G mm_Md_openChain rr_Md_openChain 138 [(0, .ref 69), (1, .int (nI c)), (2, .int (nI c)), (3, .int (nI 0)), (4, .int (nI Q)), (5, .int (nI s)), (6, .int (nI j))] [] w P := by
  have h69 : w.1 69 = _ := h
  obtain ⟨hl, hb, f77, h77, hf77⟩ := id hI
  intro n
  induction n with
  | zero =>
    intro j s hj hs hR
    have e0 : j = Q + 4 := by omega
    subst e0
    cases (show s = R from hR)
    refine e_iload dd_Md_openChain_138 rfl ?_
    refine e_iload dd_Md_openChain_140 rfl ?_
    refine e_iconst_n 4 dd_Md_openChain_142 (by decide) ?_
    refine e_iadd_n dd_Md_openChain_143 ?_
    refine e_icmp_ge_n (tgt := 165) dd_Md_openChain_144 (by decide) (by omega) (by omega) (fun _ => ?_) (fun h9 => absurd h9 (by omega))
    exact K
  | succ n ih =>
    intro j s hj hs hR
    have hx := getD_lt hb (j := j) (by omega)
    refine e_iload dd_Md_openChain_138 rfl ?_
    refine e_iload dd_Md_openChain_140 rfl ?_
    refine e_iconst_n 4 dd_Md_openChain_142 (by decide) ?_
    refine e_iadd_n dd_Md_openChain_143 ?_
    refine e_icmp_ge_n (tgt := 165) dd_Md_openChain_144 (by decide) (by omega) (by omega) (fun h9 => absurd h9 (by omega)) (fun _ => ?_)
    refine e_iload dd_Md_openChain_147 rfl ?_
    refine e_aload_n dd_Md_openChain_149 rfl ?_
    refine e_get dd_Md_openChain_150 kf_Md_31 h69 rfl ?_
    refine e_iload dd_Md_openChain_153 rfl ?_
    refine e_iald dd_Md_openChain_155 h77 rfl rfl (by omega) (by decide) ?_
    refine e_top (y := nI (im.getD j 0)) (hf77 j (by omega)) ?_
    refine e_iadd_n dd_Md_openChain_156 ?_
    refine e_istore (lv1 := [(0, .ref 69), (1, .int (nI c)), (2, .int (nI c)), (3, .int (nI 0)), (4, .int (nI Q)), (5, .int (nI (s + (im.getD j 0)))), (6, .int (nI j))]) dd_Md_openChain_157 (by decide) rfl ?_
    refine e_iinc_n (a := j) (k := 1) (lv1 := [(0, .ref 69), (1, .int (nI c)), (2, .int (nI c)), (3, .int (nI 0)), (4, .int (nI Q)), (5, .int (nI (s + (im.getD j 0)))), (6, .int (nI (j + 1)))]) dd_Md_openChain_159 rfl (by decide) (by decide) rfl ?_
    refine e_goto (tgt := 138) dd_Md_openChain_162 (by decide) ?_
    exact ih (j + 1) (s + im.getD j 0) (by omega) (by omega) hR
set_option maxRecDepth 100000 in
set_option maxHeartbeats 4000000 in
theorem l_Md_czero {c Q s e x : Nat} {P : Option Value → ab_W → Prop} (h : mO w nl dl fl ln md op pl tk rq) (hI : mA w 77 600 im) (hx : x ≤ im.length) (o0 : Option Nat) (K : o0 = none → ab_E G mm_Md_openChain rr_Md_openChain 288 [(0, .ref 69), (1, .int (nI x)), (2, .int (nI c)), (3, .int (nI 0)), (4, .int (nI Q)), (5, .int (nI s)), (6, .int (nI e)), (7, .int (nI x))] [] w P) (KF : ∀ j w2, o0 = some j → rS w w2 69 69 → mO w2 nl dl fl ln md op (nI j) tk rq → P (some (.int (-4))) w2) : ∀ n j, j + n = x → zF im n j = o0 → ab_E G mm_Md_openChain rr_Md_openChain 257 [(0, .ref 69), (1, .int (nI x)), (2, .int (nI c)), (3, .int (nI 0)), (4, .int (nI Q)), (5, .int (nI s)), (6, .int (nI e)), (7, .int (nI j))] [] w P := by
  have h69 : w.1 69 = _ := h
  obtain ⟨hl, hb, f77, h77, hf77⟩ := id hI
  intro n
  induction n with
  | zero =>
    intro j hj hR
    have e0 : j = x := by omega
    subst e0
    have K := K hR.symm
    refine e_iload dd_Md_openChain_257 rfl ?_
    refine e_iload_n dd_Md_openChain_259 rfl ?_
    refine e_icmp_ge_n (tgt := 288) dd_Md_openChain_260 (by decide) (by omega) (by omega) (fun _ => ?_) (fun h9 => absurd h9 (by omega))
    exact K
  | succ n ih =>
    intro j hj hR
    have hxb := getD_lt hb (j := j) (by omega)
    rw [zF] at hR
    refine e_iload dd_Md_openChain_257 rfl ?_
    refine e_iload_n dd_Md_openChain_259 rfl ?_
    refine e_icmp_ge_n (tgt := 288) dd_Md_openChain_260 (by decide) (by omega) (by omega) (fun h9 => absurd h9 (by omega)) (fun _ => ?_)
    refine e_aload_n dd_Md_openChain_263 rfl ?_
    refine e_get dd_Md_openChain_264 kf_Md_31 h69 rfl ?_
    refine e_iload dd_Md_openChain_267 rfl ?_
    refine e_iald dd_Md_openChain_269 h77 rfl rfl (by omega) (by decide) ?_
    refine e_top (y := nI (im.getD j 0)) (hf77 j (by omega)) ?_
    refine e_if_eq_n (tgt := 282) dd_Md_openChain_270 (by decide) (by omega) (fun c270 => ?_) (fun c270 => ?_)
    · refine e_iinc_n (a := j) (k := 1) (lv1 := [(0, .ref 69), (1, .int (nI x)), (2, .int (nI c)), (3, .int (nI 0)), (4, .int (nI Q)), (5, .int (nI s)), (6, .int (nI e)), (7, .int (nI (j + 1)))]) dd_Md_openChain_282 rfl (by decide) (by decide) rfl ?_
      refine e_goto (tgt := 257) dd_Md_openChain_285 (by decide) ?_
      rw [if_pos c270] at hR
      exact ih (j + 1) (by omega) hR
    · refine e_aload_n dd_Md_openChain_273 rfl ?_
      refine e_bipush (v := -4) dd_Md_openChain_274 (by decide) ?_
      refine e_iload dd_Md_openChain_276 rfl ?_
      refine e_callVi (d1 := rr_Md_stop) (As := [.int (-4), .int (nI j)]) (st := []) dd_Md_openChain_278 km_Md_130 h69 rfl (by decide) rfl (Nat.le_of_ble_eq_true rfl) (Nat.le_of_ble_eq_true rfl) rfl rfl (c_Md_stop h (-4) (nI j)) (fun v1 k1 => ?_)
      rw [if_neg (by omega)] at hR
      exact e_iret dd_Md_openChain_281 rfl (KF j v1 hR.symm k1.1 k1.2)
set_option maxRecDepth 100000 in
set_option maxHeartbeats 4000000 in
theorem l_Md_openChain (hI : mA w 77 600 im) : ∀ (k c : Nat) (w1 : ab_W) (acc : List FO), acc.length + k = 7 → c ≤ 700 → rS w w1 69 79 → mO w1 nl dl fl (nI im.length) md (nI acc.length) (-1) tk rq → mP w1 acc im.length → ab_E G mm_Md_openChain rr_Md_openChain 2 [(0, .ref 69), (1, .int (nI c))] [] w1 (rdP (chF im im.length k c acc) (fun _ => 0) (oF w nl dl fl (nI im.length) md tk rq) (oS w nl dl fl (nI im.length) md tk rq im.length)) := by
  intro k
  induction k with
  | zero =>
    intro c w1 acc hk hc hS h hP
    exact absurd hP.1 (by omega)
  | succ k ih =>
    intro c w1 acc hk hc hS h hP
    have hI1 := hI.fr hS (by decide) (by decide)
    have h69 : w1.1 69 = _ := h
    obtain ⟨hil, hb, f77, h77, hf77⟩ := id hI1
    obtain ⟨h6, hok, g, h79, hop⟩ := id hP
    have hli : im.length ≤ im.length := Nat.le_refl _
    rw [chF]
    refine e_iload_n dd_Md_openChain_2 rfl ?_
    refine e_aload_n dd_Md_openChain_3 rfl ?_
    refine e_get dd_Md_openChain_4 kf_Md_124 h69 rfl ?_
    refine e_icmp_ge_n (tgt := 323) dd_Md_openChain_7 (by decide) (by omega) (by omega) (fun c7 => ?_) (fun c7 => ?_)
    · rw [if_neg (Nat.not_lt.mpr c7)]
      refine e_iload_n dd_Md_openChain_323 rfl ?_
      refine e_aload_n dd_Md_openChain_324 rfl ?_
      refine e_get dd_Md_openChain_325 kf_Md_124 h69 rfl ?_
      refine e_icmp_ge_n (tgt := 335) dd_Md_openChain_328 (by decide) (by omega) (by omega) (fun _ => ?_) (fun h9 => absurd h9 (by omega))
      refine e_aload_n dd_Md_openChain_335 rfl ?_
      refine e_bipush (v := -3) dd_Md_openChain_336 (by decide) ?_
      refine e_aload_n dd_Md_openChain_338 rfl ?_
      refine e_get dd_Md_openChain_339 kf_Md_124 h69 rfl ?_
      refine e_callVi (d1 := rr_Md_stop) (As := [.int (-3), .int (nI im.length)]) (st := []) dd_Md_openChain_342 km_Md_130 h69 rfl (by decide) rfl (Nat.le_of_ble_eq_true rfl) (Nat.le_of_ble_eq_true rfl) rfl rfl (c_Md_stop h (-3) (nI im.length)) (fun v1 k1 => ?_)
      exact e_iret dd_Md_openChain_345 rfl (rdF_of ⟨⟨k1.1.1.trans hS.1, fun j a b => (k1.1.2 j a a).trans (hS.2 j a b)⟩, ⟨_, k1.2⟩, g, (k1.1.2 79 (by decide) (by decide)).trans h79⟩)
    · rw [if_pos c7]
      have hv := hf77 c c7
      have hvb := getD_lt hb c7
      generalize im.getD c 0 = v at hv hvb
      refine e_aload_n dd_Md_openChain_10 rfl ?_
      refine e_get dd_Md_openChain_11 kf_Md_31 h69 rfl ?_
      refine e_iload_n dd_Md_openChain_14 rfl ?_
      refine e_iald dd_Md_openChain_15 h77 rfl rfl (by omega) (by decide) ?_
      refine e_top (y := nI v) hv ?_
      refine e_bipush_n 69 dd_Md_openChain_16 (by decide) ?_
      refine e_icmp_eq_n (tgt := 323) dd_Md_openChain_18 (by decide) (by omega) (by omega) (fun c18 => ?_) (fun c18 => ?_)
      · rw [if_pos c18]
        refine e_iload_n dd_Md_openChain_323 rfl ?_
        refine e_aload_n dd_Md_openChain_324 rfl ?_
        refine e_get dd_Md_openChain_325 kf_Md_124 h69 rfl ?_
        refine e_icmp_ge_n (tgt := 335) dd_Md_openChain_328 (by decide) (by omega) (by omega) (fun h9 => absurd h9 (by omega)) (fun _ => ?_)
        refine e_iconst_n 0 dd_Md_openChain_331 (by decide) ?_
        refine e_goto (tgt := 345) dd_Md_openChain_332 (by decide) ?_
        exact e_iret dd_Md_openChain_345 rfl (rdS_of (v := fun _ => 0) ⟨hS, h, hP⟩)
      · rw [if_neg c18]
        refine e_aload_n dd_Md_openChain_21 rfl ?_
        refine e_get dd_Md_openChain_22 kf_Md_31 h69 rfl ?_
        refine e_iload_n dd_Md_openChain_25 rfl ?_
        refine e_iald dd_Md_openChain_26 h77 rfl rfl (by omega) (by decide) ?_
        refine e_top (y := nI v) hv ?_
        refine e_bipush_n 67 dd_Md_openChain_27 (by decide) ?_
        refine e_icmp_eq_n (tgt := 40) dd_Md_openChain_29 (by decide) (by omega) (by omega) (fun c29 => ?_) (fun c29 => ?_)
        · rw [if_neg (by omega : ¬ v ≠ 67)]
          have k0 := c_Md_head (G := G) (p := c + 1) h hI1 h79 h6 hli (by omega)
          refine e_iload_n dd_Md_openChain_40 rfl ?_
          refine e_istore_n (lv1 := [(0, .ref 69), (1, .int (nI c)), (2, .int (nI c))]) dd_Md_openChain_41 (by decide) rfl ?_
          refine e_aload_n dd_Md_openChain_42 rfl ?_
          refine e_iload_n dd_Md_openChain_43 rfl ?_
          refine e_iconst_n 1 dd_Md_openChain_44 (by decide) ?_
          refine e_iadd_n dd_Md_openChain_45 ?_
          refine e_aload_n dd_Md_openChain_46 rfl ?_
          refine e_get dd_Md_openChain_47 kf_Md_124 h69 rfl ?_
          rcases hN : rMN im im.length (c + 1) with e | q
          · rw [rdP_F hN] at k0
            have hlt := rMN_F hN
            have eR : rRH im im.length c = .inl e := by rw [rRH, hN]
            rw [eR]
            refine e_callVi (d1 := rr_Md_head) (As := [.int (nI (c + 1)), .int (nI im.length)]) (st := []) dd_Md_openChain_50 km_Md_133 h69 rfl (by decide) rfl (Nat.le_of_ble_eq_true rfl) (Nat.le_of_ble_eq_true rfl) rfl rfl (k0) (fun v1 k1 => ?_)
            refine e_istore_n (lv1 := [(0, .ref 69), (1, .int (nI c)), (2, .int (nI c)), (3, .int e.1)]) dd_Md_openChain_53 (by decide) rfl ?_
            refine e_iload_n dd_Md_openChain_54 rfl ?_
            refine e_if_eq (tgt := 60) dd_Md_openChain_55 (by decide) (fun h9 => absurd h9 (neg_ne hlt)) (fun _ => ?_)
            refine e_iload_n dd_Md_openChain_58 rfl ?_
            exact e_iret dd_Md_openChain_59 rfl (⟨rfl, ⟨k1.1.1.trans hS.1, fun j a b => (k1.1.2 j a b).trans (hS.2 j a b)⟩, ⟨_, k1.2.1⟩, k1.2.2⟩)
          · rw [rdP_S hN] at k0
            obtain ⟨m1, m2, m3, m4, m5, m6, m7⟩ := rMN_S hN
            have eR := rRH_2 hN (Q := c + 3 + q.2.length) rfl
            refine e_callVi (d1 := rr_Md_head) (As := [.int (nI (c + 1)), .int (nI im.length)]) (st := []) dd_Md_openChain_50 km_Md_133 h69 rfl (by decide) rfl (Nat.le_of_ble_eq_true rfl) (Nat.le_of_ble_eq_true rfl) rfl rfl (k0) (fun v1 k1 => ?_)
            obtain ⟨k1s, g1, k1g, k1G⟩ := k1
            have hI2 := hI1.keep (k1s.2 77 (by decide) (by decide))
            have h2 : mO v1 _ _ _ _ _ _ _ _ _ := h.w79 k1s
            have h69b : v1.1 69 = _ := h2
            have hS2 := hS.tr k1s.w79
            have h77 := (k1s.2 77 (by decide) (by decide)).trans h77
            have hK : f77 (c + 2) = nI q.2.length := by rw [hf77 _ (by omega), m7]
            generalize hQ : c + 3 + q.2.length = Q at eR
            refine e_istore_n (lv1 := [(0, .ref 69), (1, .int (nI c)), (2, .int (nI c)), (3, .int (nI 0))]) dd_Md_openChain_53 (by decide) rfl ?_
            refine e_iload_n dd_Md_openChain_54 rfl ?_
            refine e_if_eq_n (tgt := 60) dd_Md_openChain_55 (by decide) (by omega) (fun _ => ?_) (fun h9 => absurd h9 (by decide))
            refine e_iload_n dd_Md_openChain_60 rfl ?_
            refine e_iconst_n 3 dd_Md_openChain_61 (by decide) ?_
            refine e_iadd_n dd_Md_openChain_62 ?_
            refine e_aload_n dd_Md_openChain_63 rfl ?_
            refine e_get dd_Md_openChain_64 kf_Md_31 h69b rfl ?_
            refine e_iload_n dd_Md_openChain_67 rfl ?_
            refine e_iconst_n 2 dd_Md_openChain_68 (by decide) ?_
            refine e_iadd_n dd_Md_openChain_69 ?_
            refine e_iald dd_Md_openChain_70 h77 rfl rfl (by omega) (by decide) ?_
            refine e_top (y := nI q.2.length) hK ?_
            refine e_iadd_n dd_Md_openChain_71 ?_
            refine e_top (y := nI Q) (by rw [hQ]) ?_
            refine e_istore (lv1 := [(0, .ref 69), (1, .int (nI c)), (2, .int (nI c)), (3, .int (nI 0)), (4, .int (nI Q))]) dd_Md_openChain_72 (by decide) rfl ?_
            refine e_iload dd_Md_openChain_74 rfl ?_
            refine e_iconst_n 1 dd_Md_openChain_76 (by decide) ?_
            refine e_iadd_n dd_Md_openChain_77 ?_
            refine e_aload_n dd_Md_openChain_78 rfl ?_
            refine e_get dd_Md_openChain_79 kf_Md_124 h69b rfl ?_
            refine e_icmp_ge_n (tgt := 110) dd_Md_openChain_82 (by decide) (by omega) (by omega) (fun c82 => ?_) (fun c82 => ?_)
            · rw [if_neg (fun h9 => by omega), if_pos (by omega)] at eR
              rw [eR]
              refine e_iload dd_Md_openChain_110 rfl ?_
              refine e_iconst_n 4 dd_Md_openChain_112 (by decide) ?_
              refine e_iadd_n dd_Md_openChain_113 ?_
              refine e_aload_n dd_Md_openChain_114 rfl ?_
              refine e_get dd_Md_openChain_115 kf_Md_124 h69b rfl ?_
              refine e_icmp_lt_n (tgt := 132) dd_Md_openChain_118 (by decide) (by omega) (by omega) (fun h9 => absurd h9 (by omega)) (fun _ => ?_)
              refine e_aload_n dd_Md_openChain_121 rfl ?_
              refine e_bipush (v := -3) dd_Md_openChain_122 (by decide) ?_
              refine e_aload_n dd_Md_openChain_124 rfl ?_
              refine e_get dd_Md_openChain_125 kf_Md_124 h69b rfl ?_
              refine e_callVi (d1 := rr_Md_stop) (As := [.int (-3), .int (nI im.length)]) (st := []) dd_Md_openChain_128 km_Md_130 h69b rfl (by decide) rfl (Nat.le_of_ble_eq_true rfl) (Nat.le_of_ble_eq_true rfl) rfl rfl (c_Md_stop h2 (-3) (nI im.length)) (fun v2 k1 => ?_)
              exact e_iret dd_Md_openChain_131 rfl (rdF_of ⟨⟨k1.1.1.trans hS2.1, fun j a b => (k1.1.2 j a a).trans (hS2.2 j a b)⟩, ⟨_, k1.2⟩, g1, (k1.1.2 79 (by decide) (by decide)).trans k1g⟩)
            · have hx1 := hf77 (Q + 1) c82
              have hb1 := getD_lt hb c82
              refine e_aload_n dd_Md_openChain_85 rfl ?_
              refine e_get dd_Md_openChain_86 kf_Md_31 h69b rfl ?_
              refine e_iload dd_Md_openChain_89 rfl ?_
              refine e_iconst_n 1 dd_Md_openChain_91 (by decide) ?_
              refine e_iadd_n dd_Md_openChain_92 ?_
              refine e_iald dd_Md_openChain_93 h77 rfl rfl (by omega) (by decide) ?_
              refine e_top (y := nI (im.getD (Q + 1) 0)) hx1 ?_
              refine e_bipush_n 60 dd_Md_openChain_94 (by decide) ?_
              refine e_icmp_le_n (tgt := 110) dd_Md_openChain_96 (by decide) (by omega) (by omega) (fun c96 => ?_) (fun c96 => ?_)
              · rw [if_neg (fun h9 => absurd h9.2 (by omega))] at eR
                refine e_iload dd_Md_openChain_110 rfl ?_
                refine e_iconst_n 4 dd_Md_openChain_112 (by decide) ?_
                refine e_iadd_n dd_Md_openChain_113 ?_
                refine e_aload_n dd_Md_openChain_114 rfl ?_
                refine e_get dd_Md_openChain_115 kf_Md_124 h69b rfl ?_
                refine e_icmp_lt_n (tgt := 132) dd_Md_openChain_118 (by decide) (by omega) (by omega) (fun c118 => ?_) (fun c118 => ?_)
                · rw [if_neg (by omega)] at eR
                  have hx0 := hf77 Q (by omega)
                  have hb0 := getD_lt hb (j := Q) (by omega)
                  have hx4 := hf77 (Q + 4) c118
                  have hb4 := getD_lt hb c118
                  have esum : sN im 0 c (Q + 4 - c) = ((im.drop c).take (Q + 4 - c)).sum := by rw [sN_sum _ _ _ _ (by omega), Nat.zero_add]
                  have hsl := sN_le hb (Q + 4 - c) 0 c (by omega)
                  have esT : sumT im c (Q + 4 - c) = sN im 0 c (Q + 4 - c) % 256 := by rw [sumT, esum]
                  rw [esT] at eR
                  generalize hs : sN im 0 c (Q + 4 - c) = s at eR hsl
                  refine e_iconst_n 0 dd_Md_openChain_132 (by decide) ?_
                  refine e_istore (lv1 := [(0, .ref 69), (1, .int (nI c)), (2, .int (nI c)), (3, .int (nI 0)), (4, .int (nI Q)), (5, .int (nI 0))]) dd_Md_openChain_133 (by decide) rfl ?_
                  refine e_iload_n dd_Md_openChain_135 rfl ?_
                  refine e_istore (lv1 := [(0, .ref 69), (1, .int (nI c)), (2, .int (nI c)), (3, .int (nI 0)), (4, .int (nI Q)), (5, .int (nI 0)), (6, .int (nI c))]) dd_Md_openChain_136 (by decide) rfl ?_
                  refine l_Md_csum h2 hI2 c118 s ?_ (Q + 4 - c) c 0 (by omega) (by omega) hs
                  refine e_iload dd_Md_openChain_165 rfl ?_
                  refine e_sipush_n 255 dd_Md_openChain_167 (by decide) ?_
                  refine e_iand_n 8 dd_Md_openChain_170 (by omega) (by decide) ?_
                  refine e_aload_n dd_Md_openChain_171 rfl ?_
                  refine e_get dd_Md_openChain_172 kf_Md_31 h69b rfl ?_
                  refine e_iload dd_Md_openChain_175 rfl ?_
                  refine e_iconst_n 4 dd_Md_openChain_177 (by decide) ?_
                  refine e_iadd_n dd_Md_openChain_178 ?_
                  refine e_iald dd_Md_openChain_179 h77 rfl rfl (by omega) (by decide) ?_
                  refine e_top (y := nI (im.getD (Q + 4) 0)) hx4 ?_
                  refine e_icmp_eq_n (tgt := 194) dd_Md_openChain_180 (by decide) (by omega) (by omega) (fun c180 => ?_) (fun c180 => ?_)
                  · rw [if_neg (by omega)] at eR
                    rw [eR]
                    dsimp only
                    refine e_aload_n dd_Md_openChain_194 rfl ?_
                    refine e_get dd_Md_openChain_195 kf_Md_127 h69b rfl ?_
                    refine e_bipush_n 6 dd_Md_openChain_198 (by decide) ?_
                    refine e_icmp_ne_n (tgt := 211) dd_Md_openChain_200 (by decide) (by omega) (by omega) (fun c200 => ?_) (fun c200 => ?_)
                    · rw [if_neg c200, show c + 8 + q.2.length = Q + 5 by omega]
                      have epS : pS im im.length (Q + 5) (im.getD Q 0) = if im.length < nx4 (Q + 5 + im.getD Q 0) then .inl (-3, im.length) else match zF im (nx4 (Q + 5 + im.getD Q 0) - (Q + 5 + im.getD Q 0)) (Q + 5 + im.getD Q 0) with
                        | some j => .inl (-4, j)
                        | none => .inr (nx4 (Q + 5 + im.getD Q 0)) := rfl
                      have hnx : nx4 (Q + 5 + im.getD Q 0) = Q + 5 + im.getD Q 0 + (4 - (Q + 5 + im.getD Q 0) % 4) % 4 := rfl
                      refine e_iload dd_Md_openChain_211 rfl ?_
                      refine e_iconst_n 5 dd_Md_openChain_213 (by decide) ?_
                      refine e_iadd_n dd_Md_openChain_214 ?_
                      refine e_aload_n dd_Md_openChain_215 rfl ?_
                      refine e_get dd_Md_openChain_216 kf_Md_31 h69b rfl ?_
                      refine e_iload dd_Md_openChain_219 rfl ?_
                      refine e_iald dd_Md_openChain_221 h77 rfl rfl (by omega) (by decide) ?_
                      refine e_top (y := nI (im.getD Q 0)) hx0 ?_
                      refine e_iadd_n dd_Md_openChain_222 ?_
                      refine e_istore (lv1 := [(0, .ref 69), (1, .int (nI c)), (2, .int (nI c)), (3, .int (nI 0)), (4, .int (nI Q)), (5, .int (nI s)), (6, .int (nI (Q + 5 + (im.getD Q 0))))]) dd_Md_openChain_223 (by decide) rfl ?_
                      refine e_iload dd_Md_openChain_225 rfl ?_
                      refine e_iconst_n 3 dd_Md_openChain_227 (by decide) ?_
                      refine e_iadd_n dd_Md_openChain_228 ?_
                      refine e_iconst_n 4 dd_Md_openChain_229 (by decide) ?_
                      refine e_idiv_n dd_Md_openChain_230 (by omega) (by decide) (by decide) ?_
                      refine e_iconst_n 4 dd_Md_openChain_231 (by decide) ?_
                      refine e_imul_n dd_Md_openChain_232 ?_
                      rw [nx4_div]
                      generalize hx : nx4 (Q + 5 + im.getD Q 0) = x at epS hnx
                      refine e_istore_n (lv1 := [(0, .ref 69), (1, .int (nI x)), (2, .int (nI c)), (3, .int (nI 0)), (4, .int (nI Q)), (5, .int (nI s)), (6, .int (nI (Q + 5 + (im.getD Q 0))))]) dd_Md_openChain_233 (by decide) rfl ?_
                      refine e_iload_n dd_Md_openChain_234 rfl ?_
                      refine e_aload_n dd_Md_openChain_235 rfl ?_
                      refine e_get dd_Md_openChain_236 kf_Md_124 h69b rfl ?_
                      refine e_icmp_le_n (tgt := 253) dd_Md_openChain_239 (by decide) (by omega) (by omega) (fun c239 => ?_) (fun c239 => ?_)
                      · rw [if_neg (by omega)] at epS
                        refine e_iload dd_Md_openChain_253 rfl ?_
                        refine e_istore (lv1 := [(0, .ref 69), (1, .int (nI x)), (2, .int (nI c)), (3, .int (nI 0)), (4, .int (nI Q)), (5, .int (nI s)), (6, .int (nI (Q + 5 + (im.getD Q 0)))), (7, .int (nI (Q + 5 + (im.getD Q 0))))]) dd_Md_openChain_255 (by decide) rfl ?_
                        refine l_Md_czero h2 hI2 c239 (zF im (x - (Q + 5 + im.getD Q 0)) (Q + 5 + im.getD Q 0)) (fun hz => ?_) (fun j w2 hz q1 q2 => ?_) (x - (Q + 5 + im.getD Q 0)) (Q + 5 + im.getD Q 0) (by omega) rfl
                        · rw [hz] at epS
                          dsimp only at epS
                          rw [epS]
                          dsimp only
                          refine e_aload_n dd_Md_openChain_288 rfl ?_
                          refine e_iload dd_Md_openChain_289 rfl ?_
                          refine e_iconst_n 5 dd_Md_openChain_291 (by decide) ?_
                          refine e_iadd_n dd_Md_openChain_292 ?_
                          refine e_aload_n dd_Md_openChain_293 rfl ?_
                          refine e_get dd_Md_openChain_294 kf_Md_31 h69b rfl ?_
                          refine e_iload dd_Md_openChain_297 rfl ?_
                          refine e_iald dd_Md_openChain_299 h77 rfl rfl (by omega) (by decide) ?_
                          refine e_top (y := nI (im.getD Q 0)) hx0 ?_
                          refine e_aload_n dd_Md_openChain_300 rfl ?_
                          refine e_get dd_Md_openChain_301 kf_Md_31 h69b rfl ?_
                          refine e_iload dd_Md_openChain_304 rfl ?_
                          refine e_iconst_n 1 dd_Md_openChain_306 (by decide) ?_
                          refine e_iadd_n dd_Md_openChain_307 ?_
                          refine e_iald dd_Md_openChain_308 h77 rfl rfl (by omega) (by decide) ?_
                          refine e_top (y := nI (im.getD (Q + 1) 0)) hx1 ?_
                          refine e_aload_n dd_Md_openChain_309 rfl ?_
                          refine e_iload dd_Md_openChain_310 rfl ?_
                          refine e_iconst_n 2 dd_Md_openChain_312 (by decide) ?_
                          refine e_iadd_n dd_Md_openChain_313 ?_
                          refine e_callVp (d1 := rr_Md_two) (As := [.int (nI (Q + 2))]) (st := [.int (nI (im.getD (Q + 1) 0)), .int (nI (im.getD Q 0)), .int (nI (Q + 5)), .ref 69]) dd_Md_openChain_314 km_Md_136 h69b rfl (by decide) rfl (Nat.le_of_ble_eq_true rfl) (Nat.le_of_ble_eq_true rfl) rfl rfl (c_Md_two h2 hI2 (by omega)) ?_
                          refine e_callVv (d1 := rr_Md_note) (As := [.int (nI (Q + 5)), .int (nI (im.getD Q 0)), .int (nI (im.getD (Q + 1) 0)), .int (nI (nm2 im (Q + 2)))]) (st := []) dd_Md_openChain_317 km_Md_139 h69b rfl (by decide) rfl (Nat.le_of_ble_eq_true rfl) (Nat.le_of_ble_eq_true rfl) rfl rfl (c_Md_note h2 k1g (by omega) _ _ _ _) (fun v2 k2 => ?_)
                          refine e_goto (tgt := 2) dd_Md_openChain_320 (by decide) ?_
                          refine e_rm (lv1 := [(0, .ref 69), (1, .int (nI x)), (2, .int (nI c)), (3, .int (nI 0)), (4, .int (nI Q)), (5, .int (nI s)), (6, .int (nI (Q + 5 + im.getD Q 0)))]) 7 rfl ?_
                          refine e_rm (lv1 := [(0, .ref 69), (1, .int (nI x)), (2, .int (nI c)), (3, .int (nI 0)), (4, .int (nI Q)), (5, .int (nI s))]) 6 rfl ?_
                          refine e_rm (lv1 := [(0, .ref 69), (1, .int (nI x)), (2, .int (nI c)), (3, .int (nI 0)), (4, .int (nI Q))]) 5 rfl ?_
                          refine e_rm (lv1 := [(0, .ref 69), (1, .int (nI x)), (2, .int (nI c)), (3, .int (nI 0))]) 4 rfl ?_
                          refine e_rm (lv1 := [(0, .ref 69), (1, .int (nI x)), (2, .int (nI c))]) 3 rfl ?_
                          refine e_rm (lv1 := [(0, .ref 69), (1, .int (nI x))]) 2 rfl ?_
                          obtain ⟨k2s, k2o, g2, k2g, n1, n2, n3, n4, n5⟩ := k2
                          have hnm2 : nm2 im (Q + 2) < 65536 := by
                            have q1 := getD_lt hb (j := Q + 2) (by omega)
                            have q2 := getD_lt hb (j := Q + 2 + 1) (by omega)
                            rw [nm2]
                            omega
                          have hfo : foOK im.length (q.2, q.1, Q + 5, im.getD Q 0, im.getD (Q + 1) 0, nm2 im (Q + 2)) := ⟨m2, m3, m4, m1, (by dsimp only; omega), (by dsimp only; omega), hnm2, hb0⟩
                          refine ih x v2 (acc ++ [(q.2, q.1, Q + 5, im.getD Q 0, im.getD (Q + 1) 0, nm2 im (Q + 2))]) (by simp; omega) (by omega) (hS2.tr k2s) (by rw [List.length_append]; exact k2o) ⟨by simp; omega, fun q1 hq1 => ?_, g2, k2g, acc_snocP hop hok (by omega) k1G n1 n2 n3 n4 n5⟩
                          rcases List.mem_append.mp hq1 with h1 | h1
                          · exact hok q1 h1
                          · rw [List.mem_singleton.mp h1]
                            exact hfo
                        · rw [hz] at epS
                          dsimp only at epS
                          rw [epS]
                          exact ⟨rfl, ⟨q1.1.trans hS2.1, fun j a b => (q1.2 j a a).trans (hS2.2 j a b)⟩, ⟨_, q2⟩, g1, (q1.2 79 (by decide) (by decide)).trans k1g⟩
                      · rw [if_pos (by omega)] at epS
                        rw [epS]
                        refine e_aload_n dd_Md_openChain_242 rfl ?_
                        refine e_bipush (v := -3) dd_Md_openChain_243 (by decide) ?_
                        refine e_aload_n dd_Md_openChain_245 rfl ?_
                        refine e_get dd_Md_openChain_246 kf_Md_124 h69b rfl ?_
                        refine e_callVi (d1 := rr_Md_stop) (As := [.int (-3), .int (nI im.length)]) (st := []) dd_Md_openChain_249 km_Md_130 h69b rfl (by decide) rfl (Nat.le_of_ble_eq_true rfl) (Nat.le_of_ble_eq_true rfl) rfl rfl (c_Md_stop h2 (-3) (nI im.length)) (fun v2 k1 => ?_)
                        exact e_iret dd_Md_openChain_252 rfl (rdF_of ⟨⟨k1.1.1.trans hS2.1, fun j a b => (k1.1.2 j a a).trans (hS2.2 j a b)⟩, ⟨_, k1.2⟩, g1, (k1.1.2 79 (by decide) (by decide)).trans k1g⟩)
                    · rw [if_pos c200]
                      refine e_aload_n dd_Md_openChain_203 rfl ?_
                      refine e_bipush (v := -2) dd_Md_openChain_204 (by decide) ?_
                      refine e_iload_n dd_Md_openChain_206 rfl ?_
                      refine e_callVi (d1 := rr_Md_stop) (As := [.int (-2), .int (nI c)]) (st := []) dd_Md_openChain_207 km_Md_130 h69b rfl (by decide) rfl (Nat.le_of_ble_eq_true rfl) (Nat.le_of_ble_eq_true rfl) rfl rfl (c_Md_stop h2 (-2) (nI c)) (fun v2 k1 => ?_)
                      exact e_iret dd_Md_openChain_210 rfl (rdF_of ⟨⟨k1.1.1.trans hS2.1, fun j a b => (k1.1.2 j a a).trans (hS2.2 j a b)⟩, ⟨_, k1.2⟩, g1, (k1.1.2 79 (by decide) (by decide)).trans k1g⟩)
                  · rw [if_pos (by omega)] at eR
                    rw [eR]
                    refine e_aload_n dd_Md_openChain_183 rfl ?_
                    refine e_bipush (v := -4) dd_Md_openChain_184 (by decide) ?_
                    refine e_iload dd_Md_openChain_186 rfl ?_
                    refine e_iconst_n 4 dd_Md_openChain_188 (by decide) ?_
                    refine e_iadd_n dd_Md_openChain_189 ?_
                    refine e_callVi (d1 := rr_Md_stop) (As := [.int (-4), .int (nI (Q + 4))]) (st := []) dd_Md_openChain_190 km_Md_130 h69b rfl (by decide) rfl (Nat.le_of_ble_eq_true rfl) (Nat.le_of_ble_eq_true rfl) rfl rfl (c_Md_stop h2 (-4) (nI (Q + 4))) (fun v2 k1 => ?_)
                    exact e_iret dd_Md_openChain_193 rfl (rdF_of ⟨⟨k1.1.1.trans hS2.1, fun j a b => (k1.1.2 j a a).trans (hS2.2 j a b)⟩, ⟨_, k1.2⟩, g1, (k1.1.2 79 (by decide) (by decide)).trans k1g⟩)
                · rw [if_pos (by omega)] at eR
                  rw [eR]
                  refine e_aload_n dd_Md_openChain_121 rfl ?_
                  refine e_bipush (v := -3) dd_Md_openChain_122 (by decide) ?_
                  refine e_aload_n dd_Md_openChain_124 rfl ?_
                  refine e_get dd_Md_openChain_125 kf_Md_124 h69b rfl ?_
                  refine e_callVi (d1 := rr_Md_stop) (As := [.int (-3), .int (nI im.length)]) (st := []) dd_Md_openChain_128 km_Md_130 h69b rfl (by decide) rfl (Nat.le_of_ble_eq_true rfl) (Nat.le_of_ble_eq_true rfl) rfl rfl (c_Md_stop h2 (-3) (nI im.length)) (fun v2 k1 => ?_)
                  exact e_iret dd_Md_openChain_131 rfl (rdF_of ⟨⟨k1.1.1.trans hS2.1, fun j a b => (k1.1.2 j a a).trans (hS2.2 j a b)⟩, ⟨_, k1.2⟩, g1, (k1.1.2 79 (by decide) (by decide)).trans k1g⟩)
              · rw [if_pos ⟨c82, c96⟩] at eR
                rw [eR]
                refine e_aload_n dd_Md_openChain_99 rfl ?_
                refine e_bipush (v := -4) dd_Md_openChain_100 (by decide) ?_
                refine e_iload dd_Md_openChain_102 rfl ?_
                refine e_iconst_n 1 dd_Md_openChain_104 (by decide) ?_
                refine e_iadd_n dd_Md_openChain_105 ?_
                refine e_callVi (d1 := rr_Md_stop) (As := [.int (-4), .int (nI (Q + 1))]) (st := []) dd_Md_openChain_106 km_Md_130 h69b rfl (by decide) rfl (Nat.le_of_ble_eq_true rfl) (Nat.le_of_ble_eq_true rfl) rfl rfl (c_Md_stop h2 (-4) (nI (Q + 1))) (fun v2 k1 => ?_)
                exact e_iret dd_Md_openChain_109 rfl (rdF_of ⟨⟨k1.1.1.trans hS2.1, fun j a b => (k1.1.2 j a a).trans (hS2.2 j a b)⟩, ⟨_, k1.2⟩, g1, (k1.1.2 79 (by decide) (by decide)).trans k1g⟩)
        · rw [if_pos (by omega : v ≠ 67)]
          refine e_aload_n dd_Md_openChain_32 rfl ?_
          refine e_bipush (v := -4) dd_Md_openChain_33 (by decide) ?_
          refine e_iload_n dd_Md_openChain_35 rfl ?_
          refine e_callVi (d1 := rr_Md_stop) (As := [.int (-4), .int (nI c)]) (st := []) dd_Md_openChain_36 km_Md_130 h69 rfl (by decide) rfl (Nat.le_of_ble_eq_true rfl) (Nat.le_of_ble_eq_true rfl) rfl rfl (c_Md_stop h (-4) (nI c)) (fun v1 k1 => ?_)
          exact e_iret dd_Md_openChain_39 rfl (rdF_of ⟨⟨k1.1.1.trans hS.1, fun j a b => (k1.1.2 j a a).trans (hS.2 j a b)⟩, ⟨_, k1.2⟩, g, (k1.1.2 79 (by decide) (by decide)).trans h79⟩)
set_option maxRecDepth 100000 in
set_option maxHeartbeats 4000000 in
theorem c_Md_openChain (h : mO w nl dl fl (nI im.length) md (nI 0) (-1) tk rq) (hI : mA w 77 600 im) (hP : mP w [] im.length) : ab_E G mm_Md_openChain rr_Md_openChain 0 [(0, .ref 69)] [] w (rdP (opC im) (fun _ => 0) (oF w nl dl fl (nI im.length) md tk rq) (oS w nl dl fl (nI im.length) md tk rq im.length)) := by
  refine e_iconst_n 0 dd_Md_openChain_0 (by decide) ?_
  refine e_istore_n (lv1 := [(0, .ref 69), (1, .int (nI 0))]) dd_Md_openChain_1 (by decide) rfl ?_
  exact l_Md_openChain hI 7 0 w [] rfl (by decide) rS.rf h hP
end MD
