def f_X6_hard (σ : Mm) (p1 : Int32) : Option (Mm × Int32) :=
  bn1 (f_X6_isPart σ p1) (fun σ1 r1 => (if r1 = 0 then some (σ1, (-1)) else bn1 (f_X6_makeFingers σ1 p1) (fun σ3 r3 => (if r3 = 0 then some (σ3, (-3)) else some (σ3, (σ3 0 0))))))
set_option maxHeartbeats 4000000 in
set_option maxRecDepth 100000 in
theorem w_X6_hard {K : Kx} (C : CxM K cX6_hard RX6 2 5 (some .int)) (σ : Mm) (p1 : Int32) (hf : Sat (f_X6_hard σ p1) (fun o => kRt K (some (.int o.2)) o.1)) : Gj K σ 0 [(0, .ref (kAd K 0)), (1, .int p1)] [] := by
  unfold f_X6_hard at hf
  have B := C.1
  refine g_iload_n B dX6_hard_0 rfl 1 rfl ?_
  obtain ⟨σ1, r1, h1, hf⟩ := sat_ca1 hf
  refine g_cSI (rest := []) B (ck_X6_isPart C h1) mo_X6_isPart wm_RX6_65 (by decide) rfl rfl (Nat.le_of_ble_eq_true rfl) dX6_hard_1 ?_
  refine g_if_ne (tgt := 9) B dX6_hard_4 (by decide) (fun c2 => ?_) (fun c2 => ?_)
  · have hf := sat_f hf c2
    refine g_aload_n B dX6_hard_9 rfl 0 rfl ?_
    refine g_iload_n B dX6_hard_10 rfl 1 rfl ?_
    obtain ⟨σ3, r3, h3, hf⟩ := sat_ca1 hf
    refine g_cVI (rest := []) B (ck_X6_makeFingers C h3) mo_X6_makeFingers wm_RX6_123 (by decide) (cM_o C) rfl rfl rfl (Nat.le_of_ble_eq_true rfl) dX6_hard_11 ?_
    refine g_if_eq (tgt := 24) B dX6_hard_14 (by decide) (fun c4 => ?_) (fun c4 => ?_)
    · have hf := sat_t hf c4
      refine g_bipush (v := (-3)) B dX6_hard_24 (by decide) ?_
      have hf := sat_some hf
      exact g_iret B rfl rfl dX6_hard_26 hf
    · have hf := sat_f hf c4
      refine g_aload_n B dX6_hard_17 rfl 0 rfl ?_
      refine m_get_least C wf_RX6_116 dX6_hard_18 ?_
      refine g_goto (tgt := 26) B dX6_hard_21 (by decide) ?_
      have hf := sat_some hf
      exact g_iret B rfl rfl dX6_hard_26 hf
  · have hf := sat_t hf c2
    refine g_iconst (v := (-1)) B dX6_hard_7 (by decide) ?_
    have hf := sat_some hf
    exact g_iret B rfl rfl dX6_hard_8 hf
theorem c_X6_hard (l : Launch) (D : va_G) (Ad : Nat → Nat) (cI : ClassId) {σ : Mm} {p1 : Int32} {τ : Mm} {r : Int32} (h : f_X6_hard σ p1 = some (τ, r)) : CtI l D (tysM cI) (wdM Ad cI) StM yX6_hard cX6_hard 2 .int 5 σ [.ref (Ad 0), .int p1] (τ, r) := by
  refine metI (Ad := Ad) (cI := cI) (cP := cI) (cII := cI) (by decide) (Nat.le_of_ble_eq_true rfl) (wdG_ok _ _ _) stOK_M rfl (fun K C G hR => ?_)
  have e : kAd K = Ad := G.2.2.2.2.2.1
  have C2 := cM_of C G
  have h9 := w_X6_hard C2 σ p1 ⟨_, h, by rw [hR]; exact ⟨rfl, rfl⟩⟩
  rw [e] at h9
  exact h9
theorem ck_X6_hard {K : Kx} {cc : ByteArray} {own : String} {nL d : Nat} {rty : Option FieldType} (C : CxM K cc own nL d rty) {σ : Mm} {p1 : Int32} {τ : Mm} {r : Int32} (h : f_X6_hard σ p1 = some (τ, r)) : CtI (kl K) (kD K) (ktys K) (kwf K) (kSt K) yX6_hard cX6_hard 2 .int 5 σ [.ref (kAd K 0), .int p1] (τ, r) := cM_eq C (P := fun l D tys wf St => CtI l D tys wf St yX6_hard cX6_hard 2 .int 5 σ [.ref (kAd K 0), .int p1] (τ, r)) (c_X6_hard _ _ _ _ h)
def f_X6_finger (σ : Mm) (p1 : Int32) (p2 : Int32) (p3 : Int32) : Option (Mm × Int32) :=
  bn1 (f_X6_isNote σ p1 p2) (fun σ1 r1 => (if r1 = 0 then some (σ1, (-1)) else bn1 (f_X6_in σ1 p3 0 5) (fun σ3 r3 => (if r3 = 0 then some (σ3, (-1)) else bn1 (f_X6_makeFingers σ3 p1) (fun σ5 r5 => (if r5 = 0 then some (σ5, (-3)) else chk (inb p2 12) (chk (inb (σ5 15 p2.toNatClampNeg) 6000) (chk (inb p2 12) (chk (inb (σ5 15 p2.toNatClampNeg) 6000) ((if p3 = 0 then some (σ5, ((σ5 8 (σ5 15 p2.toNatClampNeg).toNatClampNeg) / 1000)) else (if p3 = 1 then bn1 (f_X6_handOf σ5 (σ5 8 (σ5 15 p2.toNatClampNeg).toNatClampNeg)) (fun σ12 r12 => some (σ12, r12)) else (if p3 = 2 then some (σ5, (((σ5 8 (σ5 15 p2.toNatClampNeg).toNatClampNeg) - (σ5 8 (σ5 15 p2.toNatClampNeg).toNatClampNeg) / 10 * 10) - ((σ5 8 (σ5 15 p2.toNatClampNeg).toNatClampNeg) - (σ5 8 (σ5 15 p2.toNatClampNeg).toNatClampNeg) / 10 * 10) / 5 * 5)) else (if p3 = 3 then bn1 (f_X6_highs σ5 ((σ5 8 (σ5 15 p2.toNatClampNeg).toNatClampNeg) - (σ5 8 (σ5 15 p2.toNatClampNeg).toNatClampNeg) / 10 * 10)) (fun σ13 r13 => some (σ13, r13)) else (if p3 = 4 then (if 0 ≤ (σ5 9 (σ5 15 p2.toNatClampNeg).toNatClampNeg) then some (σ5, (((σ5 9 (σ5 15 p2.toNatClampNeg).toNatClampNeg) - (σ5 9 (σ5 15 p2.toNatClampNeg).toNatClampNeg) / 10 * 10) - ((σ5 9 (σ5 15 p2.toNatClampNeg).toNatClampNeg) - (σ5 9 (σ5 15 p2.toNatClampNeg).toNatClampNeg) / 10 * 10) / 5 * 5)) else some (σ5, (-3))) else (if 0 ≤ (σ5 9 (σ5 15 p2.toNatClampNeg).toNatClampNeg) then bn1 (f_X6_highs σ5 ((σ5 9 (σ5 15 p2.toNatClampNeg).toNatClampNeg) - (σ5 9 (σ5 15 p2.toNatClampNeg).toNatClampNeg) / 10 * 10)) (fun σ16 r16 => some (σ16, r16)) else some (σ5, (-3))))))))))))))))))
set_option maxHeartbeats 4000000 in
set_option maxRecDepth 100000 in
theorem w_X6_finger {K : Kx} (C : CxM K cX6_finger RX6 6 5 (some .int)) (σ : Mm) (p1 : Int32) (p2 : Int32) (p3 : Int32) (hf : Sat (f_X6_finger σ p1 p2 p3) (fun o => kRt K (some (.int o.2)) o.1)) : Gj K σ 0 [(0, .ref (kAd K 0)), (1, .int p1), (2, .int p2), (3, .int p3)] [] := by
  unfold f_X6_finger at hf
  have B := C.1
  refine g_aload_n B dX6_finger_0 rfl 0 rfl ?_
  refine g_iload_n B dX6_finger_1 rfl 1 rfl ?_
  refine g_iload_n B dX6_finger_2 rfl 2 rfl ?_
  obtain ⟨σ1, r1, h1, hf⟩ := sat_ca1 hf
  refine g_cVI (rest := []) B (ck_X6_isNote C h1) mo_X6_isNote wm_RX6_76 (by decide) (cM_o C) rfl rfl rfl (Nat.le_of_ble_eq_true rfl) dX6_finger_3 ?_
  refine g_if_eq (tgt := 18) B dX6_finger_6 (by decide) (fun c2 => ?_) (fun c2 => ?_)
  · have hf := sat_t hf c2
    refine g_iconst (v := (-1)) B dX6_finger_18 (by decide) ?_
    have hf := sat_some hf
    exact g_iret B rfl rfl dX6_finger_19 hf
  · have hf := sat_f hf c2
    refine g_iload_n B dX6_finger_9 rfl 3 rfl ?_
    refine g_iconst (v := 0) B dX6_finger_10 (by decide) ?_
    refine g_iconst (v := 5) B dX6_finger_11 (by decide) ?_
    obtain ⟨σ3, r3, h3, hf⟩ := sat_ca1 hf
    refine g_cSI (rest := []) B (ck_X6_in C h3) mo_X6_in wm_RX6_61 (by decide) rfl rfl (Nat.le_of_ble_eq_true rfl) dX6_finger_12 ?_
    refine g_if_ne (tgt := 20) B dX6_finger_15 (by decide) (fun c4 => ?_) (fun c4 => ?_)
    · have hf := sat_f hf c4
      refine g_aload_n B dX6_finger_20 rfl 0 rfl ?_
      refine g_iload_n B dX6_finger_21 rfl 1 rfl ?_
      obtain ⟨σ5, r5, h5, hf⟩ := sat_ca1 hf
      refine g_cVI (rest := []) B (ck_X6_makeFingers C h5) mo_X6_makeFingers wm_RX6_123 (by decide) (cM_o C) rfl rfl rfl (Nat.le_of_ble_eq_true rfl) dX6_finger_22 ?_
      refine g_if_ne (tgt := 31) B dX6_finger_25 (by decide) (fun c6 => ?_) (fun c6 => ?_)
      · have hf := sat_f hf c6
        refine g_aload_n B dX6_finger_31 rfl 0 rfl ?_
        refine m_get_name C wf_RX6_31 dX6_finger_32 ?_
        refine g_aload_n B dX6_finger_35 rfl 0 rfl ?_
        refine m_get_chosen C wf_RX6_52 dX6_finger_36 ?_
        refine g_iload_n B dX6_finger_39 rfl 2 rfl ?_
        obtain ⟨h7, hf⟩ := sat_chk hf
        refine m_iald C 14 (by decide) rfl h7 dX6_finger_40 ?_
        obtain ⟨h8, hf⟩ := sat_chk hf
        refine m_iald C 7 (by decide) rfl h8 dX6_finger_41 ?_
        refine g_istore B [(0, .ref (kAd K 0)), (1, .int p1), (2, .int p2), (3, .int p3), (4, .int ((σ5 8 (σ5 15 p2.toNatClampNeg).toNatClampNeg)))] dX6_finger_42 (by decide) [1, 2, 3, 4, 0] rfl ?_
        refine g_aload_n B dX6_finger_44 rfl 0 rfl ?_
        refine m_get_greater C wf_RX6_34 dX6_finger_45 ?_
        refine g_aload_n B dX6_finger_48 rfl 0 rfl ?_
        refine m_get_chosen C wf_RX6_52 dX6_finger_49 ?_
        refine g_iload_n B dX6_finger_52 rfl 2 rfl ?_
        obtain ⟨h9, hf⟩ := sat_chk hf
        refine m_iald C 14 (by decide) rfl h9 dX6_finger_53 ?_
        obtain ⟨h10, hf⟩ := sat_chk hf
        refine m_iald C 8 (by decide) rfl h10 dX6_finger_54 ?_
        refine g_istore B [(0, .ref (kAd K 0)), (1, .int p1), (2, .int p2), (3, .int p3), (4, .int ((σ5 8 (σ5 15 p2.toNatClampNeg).toNatClampNeg))), (5, .int ((σ5 9 (σ5 15 p2.toNatClampNeg).toNatClampNeg)))] dX6_finger_55 (by decide) [1, 2, 3, 4, 5, 0] rfl ?_
        refine g_iload_n B dX6_finger_57 rfl 3 rfl ?_
        by_cases c11_0 : p3 = 0
        · have hf := sat_t hf c11_0
          refine g_tabIn (tgt := 92) (off := 34) B c11_0 dX6_finger_58 (by decide) (by decide) (by decide) (by decide) ?_
          refine g_iload B dX6_finger_92 4 rfl ?_
          refine g_sipush (v := 1000) B dX6_finger_94 (by decide) ?_
          refine g_idiv B (by decide) dX6_finger_97 ?_
          have hf := sat_some hf
          exact g_iret B rfl rfl dX6_finger_98 hf
        · have hf := sat_f hf c11_0
          by_cases c11_1 : p3 = 1
          · have hf := sat_t hf c11_1
            refine g_tabIn (tgt := 99) (off := 41) B c11_1 dX6_finger_58 (by decide) (by decide) (by decide) (by decide) ?_
            refine g_iload B dX6_finger_99 4 rfl ?_
            obtain ⟨σ12, r12, h12, hf⟩ := sat_ca1 hf
            refine g_cSI (rest := []) B (ck_X6_handOf C h12) mo_X6_handOf wm_RX6_105 (by decide) rfl rfl (Nat.le_of_ble_eq_true rfl) dX6_finger_101 ?_
            have hf := sat_some hf
            exact g_iret B rfl rfl dX6_finger_104 hf
          · have hf := sat_f hf c11_1
            by_cases c11_2 : p3 = 2
            · have hf := sat_t hf c11_2
              refine g_tabIn (tgt := 105) (off := 47) B c11_2 dX6_finger_58 (by decide) (by decide) (by decide) (by decide) ?_
              refine g_iload B dX6_finger_105 4 rfl ?_
              refine g_bipush (v := 10) B dX6_finger_107 (by decide) ?_
              refine g_irem B (by decide) dX6_finger_109 ?_
              refine g_iconst (v := 5) B dX6_finger_110 (by decide) ?_
              refine g_irem B (by decide) dX6_finger_111 ?_
              have hf := sat_some hf
              exact g_iret B rfl rfl dX6_finger_112 hf
            · have hf := sat_f hf c11_2
              by_cases c11_3 : p3 = 3
              · have hf := sat_t hf c11_3
                refine g_tabIn (tgt := 113) (off := 55) B c11_3 dX6_finger_58 (by decide) (by decide) (by decide) (by decide) ?_
                refine g_iload B dX6_finger_113 4 rfl ?_
                refine g_bipush (v := 10) B dX6_finger_115 (by decide) ?_
                refine g_irem B (by decide) dX6_finger_117 ?_
                obtain ⟨σ13, r13, h13, hf⟩ := sat_ca1 hf
                refine g_cSI (rest := []) B (ck_X6_highs C h13) mo_X6_highs wm_RX6_83 (by decide) rfl rfl (Nat.le_of_ble_eq_true rfl) dX6_finger_118 ?_
                have hf := sat_some hf
                exact g_iret B rfl rfl dX6_finger_121 hf
              · have hf := sat_f hf c11_3
                by_cases c11_4 : p3 = 4
                · have hf := sat_t hf c11_4
                  refine g_tabIn (tgt := 122) (off := 64) B c11_4 dX6_finger_58 (by decide) (by decide) (by decide) (by decide) ?_
                  refine g_iload B dX6_finger_122 5 rfl ?_
                  refine g_if_ge (tgt := 132) B dX6_finger_124 (by decide) (fun c14 => ?_) (fun c14 => ?_)
                  · have hf := sat_t hf c14
                    refine g_iload B dX6_finger_132 5 rfl ?_
                    refine g_bipush (v := 10) B dX6_finger_134 (by decide) ?_
                    refine g_irem B (by decide) dX6_finger_136 ?_
                    refine g_iconst (v := 5) B dX6_finger_137 (by decide) ?_
                    refine g_irem B (by decide) dX6_finger_138 ?_
                    have hf := sat_some hf
                    exact g_iret B rfl rfl dX6_finger_139 hf
                  · have hf := sat_f hf c14
                    refine g_bipush (v := (-3)) B dX6_finger_127 (by decide) ?_
                    refine g_goto (tgt := 139) B dX6_finger_129 (by decide) ?_
                    have hf := sat_some hf
                    exact g_iret B rfl rfl dX6_finger_139 hf
                · have hf := sat_f hf c11_4
                  refine g_tabOut (tgt := 140) B (by
                    have z0 := ne_toI c11_0 (z := 0) (by decide)
                    have z1 := ne_toI c11_1 (z := 1) (by decide)
                    have z2 := ne_toI c11_2 (z := 2) (by decide)
                    have z3 := ne_toI c11_3 (z := 3) (by decide)
                    have z4 := ne_toI c11_4 (z := 4) (by decide)
                    omega) dX6_finger_58 (by decide) ?_
                  refine g_iload B dX6_finger_140 5 rfl ?_
                  refine g_if_ge (tgt := 150) B dX6_finger_142 (by decide) (fun c15 => ?_) (fun c15 => ?_)
                  · have hf := sat_t hf c15
                    refine g_iload B dX6_finger_150 5 rfl ?_
                    refine g_bipush (v := 10) B dX6_finger_152 (by decide) ?_
                    refine g_irem B (by decide) dX6_finger_154 ?_
                    obtain ⟨σ16, r16, h16, hf⟩ := sat_ca1 hf
                    refine g_cSI (rest := []) B (ck_X6_highs C h16) mo_X6_highs wm_RX6_83 (by decide) rfl rfl (Nat.le_of_ble_eq_true rfl) dX6_finger_155 ?_
                    have hf := sat_some hf
                    exact g_iret B rfl rfl dX6_finger_158 hf
                  · have hf := sat_f hf c15
                    refine g_bipush (v := (-3)) B dX6_finger_145 (by decide) ?_
                    refine g_goto (tgt := 158) B dX6_finger_147 (by decide) ?_
                    have hf := sat_some hf
                    exact g_iret B rfl rfl dX6_finger_158 hf
      · have hf := sat_t hf c6
        refine g_bipush (v := (-3)) B dX6_finger_28 (by decide) ?_
        have hf := sat_some hf
        exact g_iret B rfl rfl dX6_finger_30 hf
    · have hf := sat_t hf c4
      refine g_iconst (v := (-1)) B dX6_finger_18 (by decide) ?_
      have hf := sat_some hf
      exact g_iret B rfl rfl dX6_finger_19 hf
theorem c_X6_finger (l : Launch) (D : va_G) (Ad : Nat → Nat) (cI : ClassId) {σ : Mm} {p1 : Int32} {p2 : Int32} {p3 : Int32} {τ : Mm} {r : Int32} (h : f_X6_finger σ p1 p2 p3 = some (τ, r)) : CtI l D (tysM cI) (wdM Ad cI) StM yX6_finger cX6_finger 6 .int 5 σ [.ref (Ad 0), .int p1, .int p2, .int p3] (τ, r) := by
  refine metI (Ad := Ad) (cI := cI) (cP := cI) (cII := cI) (by decide) (Nat.le_of_ble_eq_true rfl) (wdG_ok _ _ _) stOK_M rfl (fun K C G hR => ?_)
  have e : kAd K = Ad := G.2.2.2.2.2.1
  have C2 := cM_of C G
  have h9 := w_X6_finger C2 σ p1 p2 p3 ⟨_, h, by rw [hR]; exact ⟨rfl, rfl⟩⟩
  rw [e] at h9
  exact h9
theorem ck_X6_finger {K : Kx} {cc : ByteArray} {own : String} {nL d : Nat} {rty : Option FieldType} (C : CxM K cc own nL d rty) {σ : Mm} {p1 : Int32} {p2 : Int32} {p3 : Int32} {τ : Mm} {r : Int32} (h : f_X6_finger σ p1 p2 p3 = some (τ, r)) : CtI (kl K) (kD K) (ktys K) (kwf K) (kSt K) yX6_finger cX6_finger 6 .int 5 σ [.ref (kAd K 0), .int p1, .int p2, .int p3] (τ, r) := cM_eq C (P := fun l D tys wf St => CtI l D tys wf St yX6_finger cX6_finger 6 .int 5 σ [.ref (kAd K 0), .int p1, .int p2, .int p3] (τ, r)) (c_X6_finger _ _ _ _ h)
def f_X6_shifts_s24 (p1 : Int32) (σ5 : Mm) (v5_2 : Int32) (v5_3 : Int32) : Option ((Mm × Int32 × Int32) ⊕ (Mm × Int32)) :=
  chk (inb p1 3) ((if (σ5 2 p1.toNatClampNeg) ≤ v5_3 then some (.inr (σ5, v5_2)) else chk (inb (v5_3 - 1) 12) (chk (inb (σ5 15 (v5_3 - 1).toNatClampNeg) 6000) (bn1 (f_X6_handOf σ5 (σ5 8 (σ5 15 (v5_3 - 1).toNatClampNeg).toNatClampNeg)) (fun σ11 r11 => chk (inb v5_3 12) (chk (inb (σ11 15 v5_3.toNatClampNeg) 6000) (bn1 (f_X6_handOf σ11 (σ11 8 (σ11 15 v5_3.toNatClampNeg).toNatClampNeg)) (fun σ14 r14 => (if r11 = r14 then some (.inl (σ14, (v5_2 + 0), (v5_3 + 1))) else (if r11 ≤ 0 then some (.inl (σ14, (v5_2 + 0), (v5_3 + 1))) else (if r14 ≤ 0 then some (.inl (σ14, (v5_2 + 0), (v5_3 + 1))) else some (.inl (σ14, (v5_2 + 1), (v5_3 + 1))))))))))))))
def f_X6_shifts (σ : Mm) (p1 : Int32) : Option (Mm × Int32) :=
  bn1 (f_X6_isPart σ p1) (fun σ1 r1 => (if r1 = 0 then some (σ1, (-1)) else bn1 (f_X6_makeFingers σ1 p1) (fun σ3 r3 => (if r3 = 0 then some (σ3, (-3)) else bn1 (lq2 (f_X6_shifts_s24 p1) fu σ3 0 1) (fun σ6 v6_2 => some (σ6, v6_2))))))
set_option maxHeartbeats 4000000 in
set_option maxRecDepth 100000 in
theorem w_X6_shifts {K : Kx} (C : CxM K cX6_shifts RX6 6 5 (some .int)) (σ : Mm) (p1 : Int32) (hf : Sat (f_X6_shifts σ p1) (fun o => kRt K (some (.int o.2)) o.1)) : Gj K σ 0 [(0, .ref (kAd K 0)), (1, .int p1)] [] := by
  unfold f_X6_shifts at hf
  have B := C.1
  refine g_iload_n B dX6_shifts_0 rfl 1 rfl ?_
  obtain ⟨σ1, r1, h1, hf⟩ := sat_ca1 hf
  refine g_cSI (rest := []) B (ck_X6_isPart C h1) mo_X6_isPart wm_RX6_65 (by decide) rfl rfl (Nat.le_of_ble_eq_true rfl) dX6_shifts_1 ?_
  refine g_if_ne (tgt := 9) B dX6_shifts_4 (by decide) (fun c2 => ?_) (fun c2 => ?_)
  · have hf := sat_f hf c2
    refine g_aload_n B dX6_shifts_9 rfl 0 rfl ?_
    refine g_iload_n B dX6_shifts_10 rfl 1 rfl ?_
    obtain ⟨σ3, r3, h3, hf⟩ := sat_ca1 hf
    refine g_cVI (rest := []) B (ck_X6_makeFingers C h3) mo_X6_makeFingers wm_RX6_123 (by decide) (cM_o C) rfl rfl rfl (Nat.le_of_ble_eq_true rfl) dX6_shifts_11 ?_
    refine g_if_ne (tgt := 20) B dX6_shifts_14 (by decide) (fun c4 => ?_) (fun c4 => ?_)
    · have hf := sat_f hf c4
      refine g_iconst (v := 0) B dX6_shifts_20 (by decide) ?_
      refine g_istore_n B [(0, .ref (kAd K 0)), (1, .int p1), (2, .int 0)] dX6_shifts_21 rfl (by decide) [1, 2, 0] rfl ?_
      refine g_iconst (v := 1) B dX6_shifts_22 (by decide) ?_
      refine g_istore_n B [(0, .ref (kAd K 0)), (1, .int p1), (2, .int 0), (3, .int 1)] dX6_shifts_23 rfl (by decide) [1, 2, 3, 0] rfl ?_
      have hf := sat_cu1 (G := fun σ6 v6_2 => Gj K σ6 99 [(2, .int v6_2)] []) hf (by
        intro σ6 v6_2 hf
        refine g_iload_n B dX6_shifts_99 rfl 0 rfl ?_
        have hf := sat_some hf
        exact g_iret B rfl rfl dX6_shifts_100 hf)
      refine lqr2 (Gh := fun σ5 v5_2 v5_3 => Gj K σ5 24 [(0, .ref (kAd K 0)), (1, .int p1), (2, .int v5_2), (3, .int v5_3)] []) ?_ fu σ3 0 1 hf
      intro σ5 v5_2 v5_3 hf
      unfold f_X6_shifts_s24 at hf
      refine g_iload_n B dX6_shifts_24 rfl 3 rfl ?_
      refine g_aload_n B dX6_shifts_25 rfl 0 rfl ?_
      refine m_get_notes C wf_RX6_13 dX6_shifts_26 ?_
      refine g_iload_n B dX6_shifts_29 rfl 1 rfl ?_
      obtain ⟨h7, hf⟩ := sat_chk hf
      refine m_iald C 1 (by decide) rfl h7 dX6_shifts_30 ?_
      refine g_icmp_ge (tgt := 99) B dX6_shifts_31 (by decide) (fun c8 => ?_) (fun c8 => ?_)
      · have hf := sat_t hf c8
        have hf := sum_r (sat_some hf)
        exact g_sub hf [2] rfl
      · have hf := sat_f hf c8
        refine g_aload_n B dX6_shifts_34 rfl 0 rfl ?_
        refine m_get_name C wf_RX6_31 dX6_shifts_35 ?_
        refine g_aload_n B dX6_shifts_38 rfl 0 rfl ?_
        refine m_get_chosen C wf_RX6_52 dX6_shifts_39 ?_
        refine g_iload_n B dX6_shifts_42 rfl 3 rfl ?_
        refine g_iconst (v := 1) B dX6_shifts_43 (by decide) ?_
        refine g_isub B dX6_shifts_44 ?_
        obtain ⟨h9, hf⟩ := sat_chk hf
        refine m_iald C 14 (by decide) rfl h9 dX6_shifts_45 ?_
        obtain ⟨h10, hf⟩ := sat_chk hf
        refine m_iald C 7 (by decide) rfl h10 dX6_shifts_46 ?_
        obtain ⟨σ11, r11, h11, hf⟩ := sat_ca1 hf
        refine g_cSI (rest := []) B (ck_X6_handOf C h11) mo_X6_handOf wm_RX6_105 (by decide) rfl rfl (Nat.le_of_ble_eq_true rfl) dX6_shifts_47 ?_
        refine g_istore B [(0, .ref (kAd K 0)), (1, .int p1), (2, .int v5_2), (3, .int v5_3), (4, .int r11)] dX6_shifts_50 (by decide) [1, 2, 3, 4, 0] rfl ?_
        refine g_aload_n B dX6_shifts_52 rfl 0 rfl ?_
        refine m_get_name C wf_RX6_31 dX6_shifts_53 ?_
        refine g_aload_n B dX6_shifts_56 rfl 0 rfl ?_
        refine m_get_chosen C wf_RX6_52 dX6_shifts_57 ?_
        refine g_iload_n B dX6_shifts_60 rfl 3 rfl ?_
        obtain ⟨h12, hf⟩ := sat_chk hf
        refine m_iald C 14 (by decide) rfl h12 dX6_shifts_61 ?_
        obtain ⟨h13, hf⟩ := sat_chk hf
        refine m_iald C 7 (by decide) rfl h13 dX6_shifts_62 ?_
        obtain ⟨σ14, r14, h14, hf⟩ := sat_ca1 hf
        refine g_cSI (rest := []) B (ck_X6_handOf C h14) mo_X6_handOf wm_RX6_105 (by decide) rfl rfl (Nat.le_of_ble_eq_true rfl) dX6_shifts_63 ?_
        refine g_istore B [(0, .ref (kAd K 0)), (1, .int p1), (2, .int v5_2), (3, .int v5_3), (4, .int r11), (5, .int r14)] dX6_shifts_66 (by decide) [1, 2, 3, 4, 5, 0] rfl ?_
        refine g_iload_n B dX6_shifts_68 rfl 2 rfl ?_
        refine g_iload B dX6_shifts_69 4 rfl ?_
        refine g_iload B dX6_shifts_71 5 rfl ?_
        refine g_icmp_eq (tgt := 90) B dX6_shifts_73 (by decide) (fun c15 => ?_) (fun c15 => ?_)
        · have hf := sat_t hf c15
          refine g_iconst (v := 0) B dX6_shifts_90 (by decide) ?_
          refine g_iadd B dX6_shifts_91 ?_
          refine g_istore_n B [(0, .ref (kAd K 0)), (1, .int p1), (2, .int ((v5_2 + 0))), (3, .int v5_3), (4, .int r11), (5, .int r14)] dX6_shifts_92 rfl (by decide) [1, 2, 0, 3, 4, 5] rfl ?_
          refine g_iinc B (v5_3 + 1) [(0, .ref (kAd K 0)), (1, .int p1), (2, .int ((v5_2 + 0))), (3, .int ((v5_3 + 1))), (4, .int r11), (5, .int r14)] dX6_shifts_93 3 rfl rfl (by decide) [1, 2, 3, 0, 4, 5] rfl ?_
          refine g_goto (tgt := 24) B dX6_shifts_96 (by decide) ?_
          have hf := sum_l (sat_some hf)
          exact g_sub hf [0, 1, 2, 3] rfl
        · have hf := sat_f hf c15
          refine g_iload B dX6_shifts_76 4 rfl ?_
          refine g_if_le (tgt := 90) B dX6_shifts_78 (by decide) (fun c16 => ?_) (fun c16 => ?_)
          · have hf := sat_t hf c16
            refine g_iconst (v := 0) B dX6_shifts_90 (by decide) ?_
            refine g_iadd B dX6_shifts_91 ?_
            refine g_istore_n B [(0, .ref (kAd K 0)), (1, .int p1), (2, .int ((v5_2 + 0))), (3, .int v5_3), (4, .int r11), (5, .int r14)] dX6_shifts_92 rfl (by decide) [1, 2, 0, 3, 4, 5] rfl ?_
            refine g_iinc B (v5_3 + 1) [(0, .ref (kAd K 0)), (1, .int p1), (2, .int ((v5_2 + 0))), (3, .int ((v5_3 + 1))), (4, .int r11), (5, .int r14)] dX6_shifts_93 3 rfl rfl (by decide) [1, 2, 3, 0, 4, 5] rfl ?_
            refine g_goto (tgt := 24) B dX6_shifts_96 (by decide) ?_
            have hf := sum_l (sat_some hf)
            exact g_sub hf [0, 1, 2, 3] rfl
          · have hf := sat_f hf c16
            refine g_iload B dX6_shifts_81 5 rfl ?_
            refine g_if_le (tgt := 90) B dX6_shifts_83 (by decide) (fun c17 => ?_) (fun c17 => ?_)
            · have hf := sat_t hf c17
              refine g_iconst (v := 0) B dX6_shifts_90 (by decide) ?_
              refine g_iadd B dX6_shifts_91 ?_
              refine g_istore_n B [(0, .ref (kAd K 0)), (1, .int p1), (2, .int ((v5_2 + 0))), (3, .int v5_3), (4, .int r11), (5, .int r14)] dX6_shifts_92 rfl (by decide) [1, 2, 0, 3, 4, 5] rfl ?_
              refine g_iinc B (v5_3 + 1) [(0, .ref (kAd K 0)), (1, .int p1), (2, .int ((v5_2 + 0))), (3, .int ((v5_3 + 1))), (4, .int r11), (5, .int r14)] dX6_shifts_93 3 rfl rfl (by decide) [1, 2, 3, 0, 4, 5] rfl ?_
              refine g_goto (tgt := 24) B dX6_shifts_96 (by decide) ?_
              have hf := sum_l (sat_some hf)
              exact g_sub hf [0, 1, 2, 3] rfl
            · have hf := sat_f hf c17
              refine g_iconst (v := 1) B dX6_shifts_86 (by decide) ?_
              refine g_goto (tgt := 91) B dX6_shifts_87 (by decide) ?_
              refine g_iadd B dX6_shifts_91 ?_
              refine g_istore_n B [(0, .ref (kAd K 0)), (1, .int p1), (2, .int ((v5_2 + 1))), (3, .int v5_3), (4, .int r11), (5, .int r14)] dX6_shifts_92 rfl (by decide) [1, 2, 0, 3, 4, 5] rfl ?_
              refine g_iinc B (v5_3 + 1) [(0, .ref (kAd K 0)), (1, .int p1), (2, .int ((v5_2 + 1))), (3, .int ((v5_3 + 1))), (4, .int r11), (5, .int r14)] dX6_shifts_93 3 rfl rfl (by decide) [1, 2, 3, 0, 4, 5] rfl ?_
              refine g_goto (tgt := 24) B dX6_shifts_96 (by decide) ?_
              have hf := sum_l (sat_some hf)
              exact g_sub hf [0, 1, 2, 3] rfl
    · have hf := sat_t hf c4
      refine g_bipush (v := (-3)) B dX6_shifts_17 (by decide) ?_
      have hf := sat_some hf
      exact g_iret B rfl rfl dX6_shifts_19 hf
  · have hf := sat_t hf c2
    refine g_iconst (v := (-1)) B dX6_shifts_7 (by decide) ?_
    have hf := sat_some hf
    exact g_iret B rfl rfl dX6_shifts_8 hf
theorem c_X6_shifts (l : Launch) (D : va_G) (Ad : Nat → Nat) (cI : ClassId) {σ : Mm} {p1 : Int32} {τ : Mm} {r : Int32} (h : f_X6_shifts σ p1 = some (τ, r)) : CtI l D (tysM cI) (wdM Ad cI) StM yX6_shifts cX6_shifts 6 .int 5 σ [.ref (Ad 0), .int p1] (τ, r) := by
  refine metI (Ad := Ad) (cI := cI) (cP := cI) (cII := cI) (by decide) (Nat.le_of_ble_eq_true rfl) (wdG_ok _ _ _) stOK_M rfl (fun K C G hR => ?_)
  have e : kAd K = Ad := G.2.2.2.2.2.1
  have C2 := cM_of C G
  have h9 := w_X6_shifts C2 σ p1 ⟨_, h, by rw [hR]; exact ⟨rfl, rfl⟩⟩
  rw [e] at h9
  exact h9
theorem ck_X6_shifts {K : Kx} {cc : ByteArray} {own : String} {nL d : Nat} {rty : Option FieldType} (C : CxM K cc own nL d rty) {σ : Mm} {p1 : Int32} {τ : Mm} {r : Int32} (h : f_X6_shifts σ p1 = some (τ, r)) : CtI (kl K) (kD K) (ktys K) (kwf K) (kSt K) yX6_shifts cX6_shifts 6 .int 5 σ [.ref (kAd K 0), .int p1] (τ, r) := cM_eq C (P := fun l D tys wf St => CtI l D tys wf St yX6_shifts cX6_shifts 6 .int 5 σ [.ref (kAd K 0), .int p1] (τ, r)) (c_X6_shifts _ _ _ _ h)
def f_X6_turn_t19 (p1 : Int32) (p2 : Int32) (p3 : Int32) (p4 : Int32) (σ3 : Mm) : Option (Mm × Int32) :=
  bn1 (f_X6_is σ3 p1 p2 2) (fun σ4 r4 => (if r4 = 0 then (if p3 = p4 then bn1 (f_X6_is σ4 p1 p2 1) (fun σ7 r7 => (if r7 = 0 then some (σ7, 3) else some (σ7, 1))) else some (σ4, 0)) else (if p3 = p4 then some (σ4, 0) else some (σ4, 2))))
def f_X6_turn (σ : Mm) (p1 : Int32) (p2 : Int32) (p3 : Int32) (p4 : Int32) : Option (Mm × Int32) :=
  bn1 (f_X6_is σ p1 p2 4) (fun σ1 r1 => (if r1 = 0 then (f_X6_turn_t19 p1 p2 p3 p4 σ1) else (if p4 = 1 then some (σ1, 1000000) else (f_X6_turn_t19 p1 p2 p3 p4 σ1))))
set_option maxHeartbeats 4000000 in
set_option maxRecDepth 100000 in
theorem w_X6_turn {K : Kx} (C : CxM K cX6_turn RX6 5 2 (some .int)) (σ : Mm) (p1 : Int32) (p2 : Int32) (p3 : Int32) (p4 : Int32) (hf : Sat (f_X6_turn σ p1 p2 p3 p4) (fun o => kRt K (some (.int o.2)) o.1)) : Gj K σ 0 [(0, .ref (kAd K 0)), (1, .int p1), (2, .int p2), (3, .int p3), (4, .int p4)] [] := by
  unfold f_X6_turn at hf
  have B := C.1
  refine g_aload_n B dX6_turn_0 rfl 0 rfl ?_
  refine g_iload_n B dX6_turn_1 rfl 1 rfl ?_
  refine g_iload_n B dX6_turn_2 rfl 2 rfl ?_
  refine g_iconst (v := 4) B dX6_turn_3 (by decide) ?_
  obtain ⟨σ1, r1, h1, hf⟩ := sat_ca1 hf
  refine g_cVI (rest := []) B (ck_X6_is C h1) mo_X6_is wm_RX6_108 (by decide) (cM_o C) rfl rfl rfl (Nat.le_of_ble_eq_true rfl) dX6_turn_4 ?_
  refine sat_P hf (fun P3 eP3 hf => ?_)
  have hk3 : ∀ (σ3 : Mm), Sat (f_X6_turn_t19 p1 p2 p3 p4 σ3) P3 → Gj K σ3 19 [(0, .ref (kAd K 0)), (1, .int p1), (2, .int p2), (3, .int p3), (4, .int p4)] [] := by
    intro σ3 hf
    rw [eP3] at hf
    unfold f_X6_turn_t19 at hf
    refine g_aload_n B dX6_turn_19 rfl 0 rfl ?_
    refine g_iload_n B dX6_turn_20 rfl 1 rfl ?_
    refine g_iload_n B dX6_turn_21 rfl 2 rfl ?_
    refine g_iconst (v := 2) B dX6_turn_22 (by decide) ?_
    obtain ⟨σ4, r4, h4, hf⟩ := sat_ca1 hf
    refine g_cVI (rest := []) B (ck_X6_is C h4) mo_X6_is wm_RX6_108 (by decide) (cM_o C) rfl rfl rfl (Nat.le_of_ble_eq_true rfl) dX6_turn_23 ?_
    refine g_if_eq (tgt := 41) B dX6_turn_26 (by decide) (fun c5 => ?_) (fun c5 => ?_)
    · have hf := sat_t hf c5
      refine g_iload_n B dX6_turn_41 rfl 3 rfl ?_
      refine g_iload B dX6_turn_42 4 rfl ?_
      refine g_icmp_eq (tgt := 51) B dX6_turn_44 (by decide) (fun c6 => ?_) (fun c6 => ?_)
      · have hf := sat_t hf c6
        refine g_aload_n B dX6_turn_51 rfl 0 rfl ?_
        refine g_iload_n B dX6_turn_52 rfl 1 rfl ?_
        refine g_iload_n B dX6_turn_53 rfl 2 rfl ?_
        refine g_iconst (v := 1) B dX6_turn_54 (by decide) ?_
        obtain ⟨σ7, r7, h7, hf⟩ := sat_ca1 hf
        refine g_cVI (rest := []) B (ck_X6_is C h7) mo_X6_is wm_RX6_108 (by decide) (cM_o C) rfl rfl rfl (Nat.le_of_ble_eq_true rfl) dX6_turn_55 ?_
        refine g_if_eq (tgt := 65) B dX6_turn_58 (by decide) (fun c8 => ?_) (fun c8 => ?_)
        · have hf := sat_t hf c8
          refine g_iconst (v := 3) B dX6_turn_65 (by decide) ?_
          have hf := sat_some hf
          exact g_iret B rfl rfl dX6_turn_66 hf
        · have hf := sat_f hf c8
          refine g_iconst (v := 1) B dX6_turn_61 (by decide) ?_
          refine g_goto (tgt := 66) B dX6_turn_62 (by decide) ?_
          have hf := sat_some hf
          exact g_iret B rfl rfl dX6_turn_66 hf
      · have hf := sat_f hf c6
        refine g_iconst (v := 0) B dX6_turn_47 (by decide) ?_
        refine g_goto (tgt := 66) B dX6_turn_48 (by decide) ?_
        have hf := sat_some hf
        exact g_iret B rfl rfl dX6_turn_66 hf
    · have hf := sat_f hf c5
      refine g_iload_n B dX6_turn_29 rfl 3 rfl ?_
      refine g_iload B dX6_turn_30 4 rfl ?_
      refine g_icmp_ne (tgt := 39) B dX6_turn_32 (by decide) (fun c9 => ?_) (fun c9 => ?_)
      · have hf := sat_f hf c9
        refine g_iconst (v := 2) B dX6_turn_39 (by decide) ?_
        have hf := sat_some hf
        exact g_iret B rfl rfl dX6_turn_40 hf
      · have hf := sat_t hf c9
        refine g_iconst (v := 0) B dX6_turn_35 (by decide) ?_
        refine g_goto (tgt := 40) B dX6_turn_36 (by decide) ?_
        have hf := sat_some hf
        exact g_iret B rfl rfl dX6_turn_40 hf
  subst eP3
  refine g_if_eq (tgt := 19) B dX6_turn_7 (by decide) (fun c2 => ?_) (fun c2 => ?_)
  · have hf := sat_t hf c2
    have hf := hk3 σ1 hf
    exact g_sub hf [0, 1, 2, 3, 4] rfl
  · have hf := sat_f hf c2
    refine g_iload B dX6_turn_10 4 rfl ?_
    refine g_iconst (v := 1) B dX6_turn_12 (by decide) ?_
    refine g_icmp_ne (tgt := 19) B dX6_turn_13 (by decide) (fun c10 => ?_) (fun c10 => ?_)
    · have hf := sat_f hf c10
      have hf := hk3 σ1 hf
      exact g_sub hf [0, 1, 2, 3, 4] rfl
    · have hf := sat_t hf c10
      refine g_ldc B wk_RX6_111 dX6_turn_16 ?_
      have hf := sat_some hf
      exact g_iret B rfl rfl dX6_turn_18 hf
theorem c_X6_turn (l : Launch) (D : va_G) (Ad : Nat → Nat) (cI : ClassId) {σ : Mm} {p1 : Int32} {p2 : Int32} {p3 : Int32} {p4 : Int32} {τ : Mm} {r : Int32} (h : f_X6_turn σ p1 p2 p3 p4 = some (τ, r)) : CtI l D (tysM cI) (wdM Ad cI) StM yX6_turn cX6_turn 5 .int 2 σ [.ref (Ad 0), .int p1, .int p2, .int p3, .int p4] (τ, r) := by
  refine metI (Ad := Ad) (cI := cI) (cP := cI) (cII := cI) (by decide) (Nat.le_of_ble_eq_true rfl) (wdG_ok _ _ _) stOK_M rfl (fun K C G hR => ?_)
  have e : kAd K = Ad := G.2.2.2.2.2.1
  have C2 := cM_of C G
  have h9 := w_X6_turn C2 σ p1 p2 p3 p4 ⟨_, h, by rw [hR]; exact ⟨rfl, rfl⟩⟩
  rw [e] at h9
  exact h9
theorem ck_X6_turn {K : Kx} {cc : ByteArray} {own : String} {nL d : Nat} {rty : Option FieldType} (C : CxM K cc own nL d rty) {σ : Mm} {p1 : Int32} {p2 : Int32} {p3 : Int32} {p4 : Int32} {τ : Mm} {r : Int32} (h : f_X6_turn σ p1 p2 p3 p4 = some (τ, r)) : CtI (kl K) (kD K) (ktys K) (kwf K) (kSt K) yX6_turn cX6_turn 5 .int 2 σ [.ref (kAd K 0), .int p1, .int p2, .int p3, .int p4] (τ, r) := cM_eq C (P := fun l D tys wf St => CtI l D tys wf St yX6_turn cX6_turn 5 .int 2 σ [.ref (kAd K 0), .int p1, .int p2, .int p3, .int p4] (τ, r)) (c_X6_turn _ _ _ _ h)
def f_X6_goes (σ : Mm) (p1 : Int32) (p2 : Int32) (p3 : Int32) (p4 : Int32) : Option (Mm × Int32) :=
  bn1 (f_X6_turn σ p1 p2 p3 p4) (fun σ1 r1 => chk (inb ((2 * p2) + p4) 24) ((if 1000000 ≤ (r1 + (σ1 16 ((2 * p2) + p4).toNatClampNeg)) then some (σ1, 1000000) else some (σ1, (r1 + (σ1 16 ((2 * p2) + p4).toNatClampNeg))))))
set_option maxHeartbeats 4000000 in
set_option maxRecDepth 100000 in
theorem w_X6_goes {K : Kx} (C : CxM K cX6_goes RX6 6 3 (some .int)) (σ : Mm) (p1 : Int32) (p2 : Int32) (p3 : Int32) (p4 : Int32) (hf : Sat (f_X6_goes σ p1 p2 p3 p4) (fun o => kRt K (some (.int o.2)) o.1)) : Gj K σ 0 [(0, .ref (kAd K 0)), (1, .int p1), (2, .int p2), (3, .int p3), (4, .int p4)] [] := by
  unfold f_X6_goes at hf
  have B := C.1
  refine g_aload_n B dX6_goes_0 rfl 0 rfl ?_
  refine g_iload_n B dX6_goes_1 rfl 1 rfl ?_
  refine g_iload_n B dX6_goes_2 rfl 2 rfl ?_
  refine g_iload_n B dX6_goes_3 rfl 3 rfl ?_
  refine g_iload B dX6_goes_4 4 rfl ?_
  obtain ⟨σ1, r1, h1, hf⟩ := sat_ca1 hf
  refine g_cVI (rest := []) B (ck_X6_turn C h1) mo_X6_turn wm_RX6_126 (by decide) (cM_o C) rfl rfl rfl (Nat.le_of_ble_eq_true rfl) dX6_goes_6 ?_
  refine g_aload_n B dX6_goes_9 rfl 0 rfl ?_
  refine m_get_costs C wf_RX6_55 dX6_goes_10 ?_
  refine g_iconst (v := 2) B dX6_goes_13 (by decide) ?_
  refine g_iload_n B dX6_goes_14 rfl 2 rfl ?_
  refine g_imul B dX6_goes_15 ?_
  refine g_iload B dX6_goes_16 4 rfl ?_
  refine g_iadd B dX6_goes_18 ?_
  obtain ⟨h2, hf⟩ := sat_chk hf
  refine m_iald C 15 (by decide) rfl h2 dX6_goes_19 ?_
  refine g_iadd B dX6_goes_20 ?_
  refine g_istore B [(0, .ref (kAd K 0)), (1, .int p1), (2, .int p2), (3, .int p3), (4, .int p4), (5, .int ((r1 + (σ1 16 ((2 * p2) + p4).toNatClampNeg))))] dX6_goes_21 (by decide) [1, 2, 3, 4, 5, 0] rfl ?_
  refine g_iload B dX6_goes_23 5 rfl ?_
  refine g_ldc B wk_RX6_111 dX6_goes_25 ?_
  refine g_icmp_ge (tgt := 35) B dX6_goes_27 (by decide) (fun c3 => ?_) (fun c3 => ?_)
  · have hf := sat_t hf c3
    refine g_ldc B wk_RX6_111 dX6_goes_35 ?_
    have hf := sat_some hf
    exact g_iret B rfl rfl dX6_goes_37 hf
  · have hf := sat_f hf c3
    refine g_iload B dX6_goes_30 5 rfl ?_
    refine g_goto (tgt := 37) B dX6_goes_32 (by decide) ?_
    have hf := sat_some hf
    exact g_iret B rfl rfl dX6_goes_37 hf
theorem c_X6_goes (l : Launch) (D : va_G) (Ad : Nat → Nat) (cI : ClassId) {σ : Mm} {p1 : Int32} {p2 : Int32} {p3 : Int32} {p4 : Int32} {τ : Mm} {r : Int32} (h : f_X6_goes σ p1 p2 p3 p4 = some (τ, r)) : CtI l D (tysM cI) (wdM Ad cI) StM yX6_goes cX6_goes 6 .int 3 σ [.ref (Ad 0), .int p1, .int p2, .int p3, .int p4] (τ, r) := by
  refine metI (Ad := Ad) (cI := cI) (cP := cI) (cII := cI) (by decide) (Nat.le_of_ble_eq_true rfl) (wdG_ok _ _ _) stOK_M rfl (fun K C G hR => ?_)
  have e : kAd K = Ad := G.2.2.2.2.2.1
  have C2 := cM_of C G
  have h9 := w_X6_goes C2 σ p1 p2 p3 p4 ⟨_, h, by rw [hR]; exact ⟨rfl, rfl⟩⟩
  rw [e] at h9
  exact h9
theorem ck_X6_goes {K : Kx} {cc : ByteArray} {own : String} {nL d : Nat} {rty : Option FieldType} (C : CxM K cc own nL d rty) {σ : Mm} {p1 : Int32} {p2 : Int32} {p3 : Int32} {p4 : Int32} {τ : Mm} {r : Int32} (h : f_X6_goes σ p1 p2 p3 p4 = some (τ, r)) : CtI (kl K) (kD K) (ktys K) (kwf K) (kSt K) yX6_goes cX6_goes 6 .int 3 σ [.ref (kAd K 0), .int p1, .int p2, .int p3, .int p4] (τ, r) := cM_eq C (P := fun l D tys wf St => CtI l D tys wf St yX6_goes cX6_goes 6 .int 3 σ [.ref (kAd K 0), .int p1, .int p2, .int p3, .int p4] (τ, r)) (c_X6_goes _ _ _ _ h)
def f_X6_makeBows_s158 (p1 : Int32) (σ9 : Mm) (v9_3 : Int32) : Option ((Mm × Int32) ⊕ (Mm)) :=
  chk (inb p1 3) ((if (σ9 2 p1.toNatClampNeg) ≤ v9_3 then some (.inr σ9) else chk (inb (((12 * p1) + v9_3) - 1) 36) (bn1 (f_X6_goes σ9 p1 v9_3 (σ9 17 (((12 * p1) + v9_3) - 1).toNatClampNeg) 0) (fun σ15 r15 => chk (inb (((2 * v9_3) - 2) + (σ9 17 (((12 * p1) + v9_3) - 1).toNatClampNeg)) 24) (bn1 ((if r15 = (σ15 16 (((2 * v9_3) - 2) + (σ9 17 (((12 * p1) + v9_3) - 1).toNatClampNeg)).toNatClampNeg) then some (σ15, 0) else some (σ15, 1)) : Option (Mm × Int32)) (fun σ17 w17_0 => chk (inb ((12 * p1) + v9_3) 36) (nm (ms σ17 17 ((12 * p1) + v9_3).toNatClampNeg w17_0) (fun σ18 => some (.inl (σ18, (v9_3 + 1)))))))))))
def f_X6_makeBows_s45 (p1 : Int32) (v6_3 : Int32) (σ20 : Mm) (v20_4 : Int32) : Option ((Mm × Int32) ⊕ (Mm)) :=
  (if 2 ≤ v20_4 then some (.inr σ20) else chk (inb p1 3) (bn1 ((if v6_3 = ((σ20 2 p1.toNatClampNeg) - 1) then some (σ20, 0) else bn1 (f_X6_goes σ20 p1 (v6_3 + 1) v20_4 0) (fun σ30 r30 => some (σ30, r30))) : Option (Mm × Int32)) (fun σ24 w24_0 => chk (inb p1 3) (bn1 ((if v6_3 = ((σ24 2 p1.toNatClampNeg) - 1) then some (σ24, 0) else bn1 (f_X6_goes σ24 p1 (v6_3 + 1) v20_4 1) (fun σ29 r29 => some (σ29, r29))) : Option (Mm × Int32)) (fun σ26 w26_0 => bn1 ((if w26_0 ≤ w24_0 then some (σ26, w26_0) else some (σ26, w24_0)) : Option (Mm × Int32)) (fun σ27 w27_0 => chk (inb ((2 * v6_3) + v20_4) 24) (nm (ms σ27 16 ((2 * v6_3) + v20_4).toNatClampNeg w27_0) (fun σ28 => some (.inl (σ28, (v20_4 + 1)))))))))))
def f_X6_makeBows_s38 (p1 : Int32) (σ6 : Mm) (v6_3 : Int32) : Option ((Mm × Int32) ⊕ (Mm)) :=
  (if v6_3 < 0 then some (.inr σ6) else bn0 (lq1 (f_X6_makeBows_s45 p1 v6_3) fu σ6 0) (fun σ21 => some (.inl (σ21, (v6_3 + (-1))))))
def f_X6_makeBows_t29 (p1 : Int32) (p2 : Int32) (σ4 : Mm) : Option (Mm × Int32) :=
  chk (inb p1 3) (bn0 (lq1 (f_X6_makeBows_s38 p1) fu σ4 ((σ4 2 p1.toNatClampNeg) - 1)) (fun σ7 => chk (inb (12 * p1) 36) (nm (ms σ7 17 (12 * p1).toNatClampNeg p2) (fun σ8 => bn0 (lq1 (f_X6_makeBows_s158 p1) fu σ8 1) (fun σ10 => chk (inb p2 24) (some (σ10, (σ10 16 p2.toNatClampNeg))))))))
def f_X6_makeBows (σ : Mm) (p1 : Int32) (p2 : Int32) : Option (Mm × Int32) :=
  chk (inb p1 3) ((if (σ 2 p1.toNatClampNeg) = 0 then some (σ, 0) else (if p2 = 1 then bn1 (f_X6_is σ p1 0 4) (fun σ31 r31 => (if r31 = 0 then (f_X6_makeBows_t29 p1 p2 σ31) else some (σ31, (-3)))) else (f_X6_makeBows_t29 p1 p2 σ))))
set_option maxHeartbeats 4000000 in
set_option maxRecDepth 100000 in
theorem w_X6_makeBows {K : Kx} (C : CxM K cX6_makeBows RX6 7 4 (some .int)) (σ : Mm) (p1 : Int32) (p2 : Int32) (hf : Sat (f_X6_makeBows σ p1 p2) (fun o => kRt K (some (.int o.2)) o.1)) : Gj K σ 0 [(0, .ref (kAd K 0)), (1, .int p1), (2, .int p2)] [] := by
  unfold f_X6_makeBows at hf
  have B := C.1
  refine g_aload_n B dX6_makeBows_0 rfl 0 rfl ?_
  refine m_get_notes C wf_RX6_13 dX6_makeBows_1 ?_
  refine g_iload_n B dX6_makeBows_4 rfl 1 rfl ?_
  obtain ⟨h1, hf⟩ := sat_chk hf
  refine m_iald C 1 (by decide) rfl h1 dX6_makeBows_5 ?_
  refine g_if_ne (tgt := 11) B dX6_makeBows_6 (by decide) (fun c2 => ?_) (fun c2 => ?_)
  · have hf := sat_f hf c2
    refine g_iload_n B dX6_makeBows_11 rfl 2 rfl ?_
    refine g_iconst (v := 1) B dX6_makeBows_12 (by decide) ?_
    refine sat_P hf (fun P4 eP4 hf => ?_)
    have hk4 : ∀ (σ4 : Mm), Sat (f_X6_makeBows_t29 p1 p2 σ4) P4 → Gj K σ4 29 [(0, .ref (kAd K 0)), (1, .int p1), (2, .int p2)] [] := by
      intro σ4 hf
      rw [eP4] at hf
      unfold f_X6_makeBows_t29 at hf
      refine g_aload_n B dX6_makeBows_29 rfl 0 rfl ?_
      refine m_get_notes C wf_RX6_13 dX6_makeBows_30 ?_
      refine g_iload_n B dX6_makeBows_33 rfl 1 rfl ?_
      obtain ⟨h5, hf⟩ := sat_chk hf
      refine m_iald C 1 (by decide) rfl h5 dX6_makeBows_34 ?_
      refine g_iconst (v := 1) B dX6_makeBows_35 (by decide) ?_
      refine g_isub B dX6_makeBows_36 ?_
      refine g_istore_n B [(0, .ref (kAd K 0)), (1, .int p1), (2, .int p2), (3, .int (((σ4 2 p1.toNatClampNeg) - 1)))] dX6_makeBows_37 rfl (by decide) [1, 2, 3, 0] rfl ?_
      have hf := sat_cu0 (G := fun σ7 => Gj K σ7 146 [(0, .ref (kAd K 0)), (1, .int p1), (2, .int p2)] []) hf (by
        intro σ7 hf
        refine g_aload_n B dX6_makeBows_146 rfl 0 rfl ?_
        refine m_get_ways C wf_RX6_58 dX6_makeBows_147 ?_
        refine g_bipush (v := 12) B dX6_makeBows_150 (by decide) ?_
        refine g_iload_n B dX6_makeBows_152 rfl 1 rfl ?_
        refine g_imul B dX6_makeBows_153 ?_
        refine g_iload_n B dX6_makeBows_154 rfl 2 rfl ?_
        obtain ⟨h8, hf⟩ := sat_chk hf
        obtain ⟨σ8, e8, hf⟩ := sat_nm hf
        refine m_iast C 16 (by decide) rfl h8 dX6_makeBows_155 (g_mem2 e8 ?_)
        refine g_iconst (v := 1) B dX6_makeBows_156 (by decide) ?_
        refine g_istore_n B [(0, .ref (kAd K 0)), (1, .int p1), (2, .int p2), (3, .int 1)] dX6_makeBows_157 rfl (by decide) [1, 2, 3, 0] rfl ?_
        have hf := sat_cu0 (G := fun σ10 => Gj K σ10 230 [(0, .ref (kAd K 0)), (2, .int p2)] []) hf (by
          intro σ10 hf
          refine g_aload_n B dX6_makeBows_230 rfl 0 rfl ?_
          refine m_get_costs C wf_RX6_55 dX6_makeBows_231 ?_
          refine g_iload_n B dX6_makeBows_234 rfl 1 rfl ?_
          obtain ⟨h11, hf⟩ := sat_chk hf
          refine m_iald C 15 (by decide) rfl h11 dX6_makeBows_235 ?_
          have hf := sat_some hf
          exact g_iret B rfl rfl dX6_makeBows_236 hf)
        refine lqr1 (Gh := fun σ9 v9_3 => Gj K σ9 158 [(0, .ref (kAd K 0)), (1, .int p1), (2, .int p2), (3, .int v9_3)] []) ?_ fu σ8 1 hf
        intro σ9 v9_3 hf
        unfold f_X6_makeBows_s158 at hf
        refine g_iload_n B dX6_makeBows_158 rfl 3 rfl ?_
        refine g_aload_n B dX6_makeBows_159 rfl 0 rfl ?_
        refine m_get_notes C wf_RX6_13 dX6_makeBows_160 ?_
        refine g_iload_n B dX6_makeBows_163 rfl 1 rfl ?_
        obtain ⟨h12, hf⟩ := sat_chk hf
        refine m_iald C 1 (by decide) rfl h12 dX6_makeBows_164 ?_
        refine g_icmp_ge (tgt := 230) B dX6_makeBows_165 (by decide) (fun c13 => ?_) (fun c13 => ?_)
        · have hf := sat_t hf c13
          have hf := sum_r (sat_some hf)
          exact g_sub hf [0, 2] rfl
        · have hf := sat_f hf c13
          refine g_aload_n B dX6_makeBows_168 rfl 0 rfl ?_
          refine m_get_ways C wf_RX6_58 dX6_makeBows_169 ?_
          refine g_bipush (v := 12) B dX6_makeBows_172 (by decide) ?_
          refine g_iload_n B dX6_makeBows_174 rfl 1 rfl ?_
          refine g_imul B dX6_makeBows_175 ?_
          refine g_iload_n B dX6_makeBows_176 rfl 3 rfl ?_
          refine g_iadd B dX6_makeBows_177 ?_
          refine g_iconst (v := 1) B dX6_makeBows_178 (by decide) ?_
          refine g_isub B dX6_makeBows_179 ?_
          obtain ⟨h14, hf⟩ := sat_chk hf
          refine m_iald C 16 (by decide) rfl h14 dX6_makeBows_180 ?_
          refine g_istore B [(0, .ref (kAd K 0)), (1, .int p1), (2, .int p2), (3, .int v9_3), (4, .int ((σ9 17 (((12 * p1) + v9_3) - 1).toNatClampNeg)))] dX6_makeBows_181 (by decide) [1, 2, 3, 4, 0] rfl ?_
          refine g_aload_n B dX6_makeBows_183 rfl 0 rfl ?_
          refine m_get_ways C wf_RX6_58 dX6_makeBows_184 ?_
          refine g_bipush (v := 12) B dX6_makeBows_187 (by decide) ?_
          refine g_iload_n B dX6_makeBows_189 rfl 1 rfl ?_
          refine g_imul B dX6_makeBows_190 ?_
          refine g_iload_n B dX6_makeBows_191 rfl 3 rfl ?_
          refine g_iadd B dX6_makeBows_192 ?_
          refine g_aload_n B dX6_makeBows_193 rfl 0 rfl ?_
          refine g_iload_n B dX6_makeBows_194 rfl 1 rfl ?_
          refine g_iload_n B dX6_makeBows_195 rfl 3 rfl ?_
          refine g_iload B dX6_makeBows_196 4 rfl ?_
          refine g_iconst (v := 0) B dX6_makeBows_198 (by decide) ?_
          obtain ⟨σ15, r15, h15, hf⟩ := sat_ca1 hf
          refine g_cVI (rest := [.int (((12 * p1) + v9_3)), .ref (kAd K 17)]) B (ck_X6_goes C h15) mo_X6_goes wm_RX6_129 (by decide) (cM_o C) rfl rfl rfl (Nat.le_of_ble_eq_true rfl) dX6_makeBows_199 ?_
          refine g_aload_n B dX6_makeBows_202 rfl 0 rfl ?_
          refine m_get_costs C wf_RX6_55 dX6_makeBows_203 ?_
          refine g_iconst (v := 2) B dX6_makeBows_206 (by decide) ?_
          refine g_iload_n B dX6_makeBows_207 rfl 3 rfl ?_
          refine g_imul B dX6_makeBows_208 ?_
          refine g_iconst (v := 2) B dX6_makeBows_209 (by decide) ?_
          refine g_isub B dX6_makeBows_210 ?_
          refine g_iload B dX6_makeBows_211 4 rfl ?_
          refine g_iadd B dX6_makeBows_213 ?_
          obtain ⟨h16, hf⟩ := sat_chk hf
          refine m_iald C 15 (by decide) rfl h16 dX6_makeBows_214 ?_
          have hf := sat_cu1 (G := fun σ17 w17_0 => Gj K σ17 223 [(0, .ref (kAd K 0)), (1, .int p1), (2, .int p2), (3, .int v9_3)] [.int w17_0, .int (((12 * p1) + v9_3)), .ref (kAd K 17)]) hf (by
            intro σ17 w17_0 hf
            obtain ⟨h18, hf⟩ := sat_chk hf
            obtain ⟨σ18, e18, hf⟩ := sat_nm hf
            refine m_iast C 16 (by decide) rfl h18 dX6_makeBows_223 (g_mem2 e18 ?_)
            refine g_iinc B (v9_3 + 1) [(0, .ref (kAd K 0)), (1, .int p1), (2, .int p2), (3, .int ((v9_3 + 1)))] dX6_makeBows_224 3 rfl rfl (by decide) [1, 2, 3, 0] rfl ?_
            refine g_goto (tgt := 158) B dX6_makeBows_227 (by decide) ?_
            have hf := sum_l (sat_some hf)
            exact g_sub hf [0, 1, 2, 3] rfl)
          refine g_icmp_ne (tgt := 222) B dX6_makeBows_215 (by decide) (fun c17 => ?_) (fun c17 => ?_)
          · have hf := sat_f hf c17
            refine g_iconst (v := 1) B dX6_makeBows_222 (by decide) ?_
            have hf := sat_some hf
            exact g_sub hf [0, 1, 2, 3] rfl
          · have hf := sat_t hf c17
            refine g_iconst (v := 0) B dX6_makeBows_218 (by decide) ?_
            refine g_goto (tgt := 223) B dX6_makeBows_219 (by decide) ?_
            have hf := sat_some hf
            exact g_sub hf [0, 1, 2, 3] rfl)
      refine lqr1 (Gh := fun σ6 v6_3 => Gj K σ6 38 [(0, .ref (kAd K 0)), (1, .int p1), (2, .int p2), (3, .int v6_3)] []) ?_ fu σ4 ((σ4 2 p1.toNatClampNeg) - 1) hf
      intro σ6 v6_3 hf
      unfold f_X6_makeBows_s38 at hf
      refine g_iload_n B dX6_makeBows_38 rfl 3 rfl ?_
      refine g_if_lt (tgt := 146) B dX6_makeBows_39 (by decide) (fun c19 => ?_) (fun c19 => ?_)
      · have hf := sat_t hf c19
        have hf := sum_r (sat_some hf)
        exact g_sub hf [0, 1, 2] rfl
      · have hf := sat_f hf c19
        refine g_iconst (v := 0) B dX6_makeBows_42 (by decide) ?_
        refine g_istore B [(0, .ref (kAd K 0)), (1, .int p1), (2, .int p2), (3, .int v6_3), (4, .int 0)] dX6_makeBows_43 (by decide) [1, 2, 3, 4, 0] rfl ?_
        have hf := sat_cu0 (G := fun σ21 => Gj K σ21 140 [(0, .ref (kAd K 0)), (1, .int p1), (2, .int p2), (3, .int v6_3)] []) hf (by
          intro σ21 hf
          refine g_iinc B (v6_3 + (-1)) [(0, .ref (kAd K 0)), (1, .int p1), (2, .int p2), (3, .int ((v6_3 + (-1))))] dX6_makeBows_140 3 rfl rfl (by decide) [1, 2, 3, 0] rfl ?_
          refine g_goto (tgt := 38) B dX6_makeBows_143 (by decide) ?_
          have hf := sum_l (sat_some hf)
          exact g_sub hf [0, 1, 2, 3] rfl)
        refine lqr1 (Gh := fun σ20 v20_4 => Gj K σ20 45 [(0, .ref (kAd K 0)), (1, .int p1), (2, .int p2), (3, .int v6_3), (4, .int v20_4)] []) ?_ fu σ6 0 hf
        intro σ20 v20_4 hf
        unfold f_X6_makeBows_s45 at hf
        refine g_iload B dX6_makeBows_45 4 rfl ?_
        refine g_iconst (v := 2) B dX6_makeBows_47 (by decide) ?_
        refine g_icmp_ge (tgt := 140) B dX6_makeBows_48 (by decide) (fun c22 => ?_) (fun c22 => ?_)
        · have hf := sat_t hf c22
          have hf := sum_r (sat_some hf)
          exact g_sub hf [0, 1, 2, 3] rfl
        · have hf := sat_f hf c22
          refine g_iload_n B dX6_makeBows_51 rfl 3 rfl ?_
          refine g_aload_n B dX6_makeBows_52 rfl 0 rfl ?_
          refine m_get_notes C wf_RX6_13 dX6_makeBows_53 ?_
          refine g_iload_n B dX6_makeBows_56 rfl 1 rfl ?_
          obtain ⟨h23, hf⟩ := sat_chk hf
          refine m_iald C 1 (by decide) rfl h23 dX6_makeBows_57 ?_
          refine g_iconst (v := 1) B dX6_makeBows_58 (by decide) ?_
          refine g_isub B dX6_makeBows_59 ?_
          have hf := sat_cu1 (G := fun σ24 w24_0 => Gj K σ24 78 [(0, .ref (kAd K 0)), (1, .int p1), (2, .int p2), (3, .int v6_3), (4, .int v20_4)] [.int w24_0]) hf (by
            intro σ24 w24_0 hf
            refine g_istore B [(0, .ref (kAd K 0)), (1, .int p1), (2, .int p2), (3, .int v6_3), (4, .int v20_4), (5, .int w24_0)] dX6_makeBows_78 (by decide) [1, 2, 3, 4, 5, 0] rfl ?_
            refine g_iload_n B dX6_makeBows_80 rfl 3 rfl ?_
            refine g_aload_n B dX6_makeBows_81 rfl 0 rfl ?_
            refine m_get_notes C wf_RX6_13 dX6_makeBows_82 ?_
            refine g_iload_n B dX6_makeBows_85 rfl 1 rfl ?_
            obtain ⟨h25, hf⟩ := sat_chk hf
            refine m_iald C 1 (by decide) rfl h25 dX6_makeBows_86 ?_
            refine g_iconst (v := 1) B dX6_makeBows_87 (by decide) ?_
            refine g_isub B dX6_makeBows_88 ?_
            have hf := sat_cu1 (G := fun σ26 w26_0 => Gj K σ26 107 [(0, .ref (kAd K 0)), (1, .int p1), (2, .int p2), (3, .int v6_3), (4, .int v20_4), (5, .int w24_0)] [.int w26_0]) hf (by
              intro σ26 w26_0 hf
              refine g_istore B [(0, .ref (kAd K 0)), (1, .int p1), (2, .int p2), (3, .int v6_3), (4, .int v20_4), (5, .int w24_0), (6, .int w26_0)] dX6_makeBows_107 (by decide) [1, 2, 3, 4, 5, 6, 0] rfl ?_
              refine g_aload_n B dX6_makeBows_109 rfl 0 rfl ?_
              refine m_get_costs C wf_RX6_55 dX6_makeBows_110 ?_
              refine g_iconst (v := 2) B dX6_makeBows_113 (by decide) ?_
              refine g_iload_n B dX6_makeBows_114 rfl 3 rfl ?_
              refine g_imul B dX6_makeBows_115 ?_
              refine g_iload B dX6_makeBows_116 4 rfl ?_
              refine g_iadd B dX6_makeBows_118 ?_
              refine g_iload B dX6_makeBows_119 5 rfl ?_
              refine g_iload B dX6_makeBows_121 6 rfl ?_
              have hf := sat_cu1 (G := fun σ27 w27_0 => Gj K σ27 133 [(0, .ref (kAd K 0)), (1, .int p1), (2, .int p2), (3, .int v6_3), (4, .int v20_4)] [.int w27_0, .int (((2 * v6_3) + v20_4)), .ref (kAd K 16)]) hf (by
                intro σ27 w27_0 hf
                obtain ⟨h28, hf⟩ := sat_chk hf
                obtain ⟨σ28, e28, hf⟩ := sat_nm hf
                refine m_iast C 15 (by decide) rfl h28 dX6_makeBows_133 (g_mem2 e28 ?_)
                refine g_iinc B (v20_4 + 1) [(0, .ref (kAd K 0)), (1, .int p1), (2, .int p2), (3, .int v6_3), (4, .int ((v20_4 + 1)))] dX6_makeBows_134 4 rfl rfl (by decide) [1, 2, 3, 4, 0] rfl ?_
                refine g_goto (tgt := 45) B dX6_makeBows_137 (by decide) ?_
                have hf := sum_l (sat_some hf)
                exact g_sub hf [0, 1, 2, 3, 4] rfl)
              refine g_icmp_ge (tgt := 131) B dX6_makeBows_123 (by decide) (fun c27 => ?_) (fun c27 => ?_)
              · have hf := sat_t hf c27
                refine g_iload B dX6_makeBows_131 6 rfl ?_
                have hf := sat_some hf
                exact g_sub hf [0, 1, 2, 3, 4] rfl
              · have hf := sat_f hf c27
                refine g_iload B dX6_makeBows_126 5 rfl ?_
                refine g_goto (tgt := 133) B dX6_makeBows_128 (by decide) ?_
                have hf := sat_some hf
                exact g_sub hf [0, 1, 2, 3, 4] rfl)
            refine g_icmp_ne (tgt := 96) B dX6_makeBows_89 (by decide) (fun c26 => ?_) (fun c26 => ?_)
            · have hf := sat_f hf c26
              refine g_aload_n B dX6_makeBows_96 rfl 0 rfl ?_
              refine g_iload_n B dX6_makeBows_97 rfl 1 rfl ?_
              refine g_iload_n B dX6_makeBows_98 rfl 3 rfl ?_
              refine g_iconst (v := 1) B dX6_makeBows_99 (by decide) ?_
              refine g_iadd B dX6_makeBows_100 ?_
              refine g_iload B dX6_makeBows_101 4 rfl ?_
              refine g_iconst (v := 1) B dX6_makeBows_103 (by decide) ?_
              obtain ⟨σ29, r29, h29, hf⟩ := sat_ca1 hf
              refine g_cVI (rest := []) B (ck_X6_goes C h29) mo_X6_goes wm_RX6_129 (by decide) (cM_o C) rfl rfl rfl (Nat.le_of_ble_eq_true rfl) dX6_makeBows_104 ?_
              have hf := sat_some hf
              exact g_sub hf [0, 1, 2, 3, 4, 5] rfl
            · have hf := sat_t hf c26
              refine g_iconst (v := 0) B dX6_makeBows_92 (by decide) ?_
              refine g_goto (tgt := 107) B dX6_makeBows_93 (by decide) ?_
              have hf := sat_some hf
              exact g_sub hf [0, 1, 2, 3, 4, 5] rfl)
          refine g_icmp_ne (tgt := 67) B dX6_makeBows_60 (by decide) (fun c24 => ?_) (fun c24 => ?_)
          · have hf := sat_f hf c24
            refine g_aload_n B dX6_makeBows_67 rfl 0 rfl ?_
            refine g_iload_n B dX6_makeBows_68 rfl 1 rfl ?_
            refine g_iload_n B dX6_makeBows_69 rfl 3 rfl ?_
            refine g_iconst (v := 1) B dX6_makeBows_70 (by decide) ?_
            refine g_iadd B dX6_makeBows_71 ?_
            refine g_iload B dX6_makeBows_72 4 rfl ?_
            refine g_iconst (v := 0) B dX6_makeBows_74 (by decide) ?_
            obtain ⟨σ30, r30, h30, hf⟩ := sat_ca1 hf
            refine g_cVI (rest := []) B (ck_X6_goes C h30) mo_X6_goes wm_RX6_129 (by decide) (cM_o C) rfl rfl rfl (Nat.le_of_ble_eq_true rfl) dX6_makeBows_75 ?_
            have hf := sat_some hf
            exact g_sub hf [0, 1, 2, 3, 4] rfl
          · have hf := sat_t hf c24
            refine g_iconst (v := 0) B dX6_makeBows_63 (by decide) ?_
            refine g_goto (tgt := 78) B dX6_makeBows_64 (by decide) ?_
            have hf := sat_some hf
            exact g_sub hf [0, 1, 2, 3, 4] rfl
    subst eP4
    refine g_icmp_ne (tgt := 29) B dX6_makeBows_13 (by decide) (fun c3 => ?_) (fun c3 => ?_)
    · have hf := sat_f hf c3
      have hf := hk4 σ hf
      exact g_sub hf [0, 1, 2] rfl
    · have hf := sat_t hf c3
      refine g_aload_n B dX6_makeBows_16 rfl 0 rfl ?_
      refine g_iload_n B dX6_makeBows_17 rfl 1 rfl ?_
      refine g_iconst (v := 0) B dX6_makeBows_18 (by decide) ?_
      refine g_iconst (v := 4) B dX6_makeBows_19 (by decide) ?_
      obtain ⟨σ31, r31, h31, hf⟩ := sat_ca1 hf
      refine g_cVI (rest := []) B (ck_X6_is C h31) mo_X6_is wm_RX6_108 (by decide) (cM_o C) rfl rfl rfl (Nat.le_of_ble_eq_true rfl) dX6_makeBows_20 ?_
      refine g_if_eq (tgt := 29) B dX6_makeBows_23 (by decide) (fun c32 => ?_) (fun c32 => ?_)
      · have hf := sat_t hf c32
        have hf := hk4 σ31 hf
        exact g_sub hf [0, 1, 2] rfl
      · have hf := sat_f hf c32
        refine g_bipush (v := (-3)) B dX6_makeBows_26 (by decide) ?_
        have hf := sat_some hf
        exact g_iret B rfl rfl dX6_makeBows_28 hf
  · have hf := sat_t hf c2
    refine g_iconst (v := 0) B dX6_makeBows_9 (by decide) ?_
    have hf := sat_some hf
    exact g_iret B rfl rfl dX6_makeBows_10 hf
theorem c_X6_makeBows (l : Launch) (D : va_G) (Ad : Nat → Nat) (cI : ClassId) {σ : Mm} {p1 : Int32} {p2 : Int32} {τ : Mm} {r : Int32} (h : f_X6_makeBows σ p1 p2 = some (τ, r)) : CtI l D (tysM cI) (wdM Ad cI) StM yX6_makeBows cX6_makeBows 7 .int 4 σ [.ref (Ad 0), .int p1, .int p2] (τ, r) := by
  refine metI (Ad := Ad) (cI := cI) (cP := cI) (cII := cI) (by decide) (Nat.le_of_ble_eq_true rfl) (wdG_ok _ _ _) stOK_M rfl (fun K C G hR => ?_)
  have e : kAd K = Ad := G.2.2.2.2.2.1
  have C2 := cM_of C G
  have h9 := w_X6_makeBows C2 σ p1 p2 ⟨_, h, by rw [hR]; exact ⟨rfl, rfl⟩⟩
  rw [e] at h9
  exact h9
theorem ck_X6_makeBows {K : Kx} {cc : ByteArray} {own : String} {nL d : Nat} {rty : Option FieldType} (C : CxM K cc own nL d rty) {σ : Mm} {p1 : Int32} {p2 : Int32} {τ : Mm} {r : Int32} (h : f_X6_makeBows σ p1 p2 = some (τ, r)) : CtI (kl K) (kD K) (ktys K) (kwf K) (kSt K) yX6_makeBows cX6_makeBows 7 .int 4 σ [.ref (kAd K 0), .int p1, .int p2] (τ, r) := cM_eq C (P := fun l D tys wf St => CtI l D tys wf St yX6_makeBows cX6_makeBows 7 .int 4 σ [.ref (kAd K 0), .int p1, .int p2] (τ, r)) (c_X6_makeBows _ _ _ _ h)
