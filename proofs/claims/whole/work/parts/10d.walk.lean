def f_X6_comes (σ : Mm) (p1 : Int32) (p2 : Int32) (p3 : Int32) (p4 : Int32) : Option (Mm × Int32) :=
  chk (inb p3 6000) (chk (inb p4 6000) (bn1 (f_X6_apart σ ((σ 8 p3.toNatClampNeg) / 1000) ((σ 8 p4.toNatClampNeg) / 1000)) (fun σ3 r3 => chk (inb p3 6000) (bn1 (f_X6_handOf σ3 (σ3 8 p3.toNatClampNeg)) (fun σ5 r5 => chk (inb p4 6000) (bn1 (f_X6_handOf σ5 (σ5 8 p4.toNatClampNeg)) (fun σ7 r7 => (if r5 = 0 then some (σ7, r3) else (if r7 = 0 then some (σ7, r3) else (if r5 = r7 then some (σ7, r3) else bn1 (f_X6_is σ7 p1 p2 1) (fun σ11 r11 => (if r11 = 0 then bn1 (f_X6_is σ11 p1 p2 8) (fun σ13 r13 => (if r13 = 0 then bn1 (f_X6_is σ13 p1 p2 2) (fun σ15 r15 => (if r15 = 0 then bn1 (f_X6_apart σ15 r5 r7) (fun σ17 r17 => some (σ17, (r3 + (2 * r17)))) else some (σ15, 1000000))) else some (σ13, r3))) else some (σ11, r3)))))))))))))
set_option maxHeartbeats 4000000 in
set_option maxRecDepth 100000 in
theorem w_X6_comes {K : Kx} (C : CxM K cX6_comes RX6 8 2 (some .int)) (σ : Mm) (p1 : Int32) (p2 : Int32) (p3 : Int32) (p4 : Int32) (hf : Sat (f_X6_comes σ p1 p2 p3 p4) (fun o => kRt K (some (.int o.2)) o.1)) : Gj K σ 0 [(0, .ref (kAd K 0)), (1, .int p1), (2, .int p2), (3, .int p3), (4, .int p4)] [] := by
  unfold f_X6_comes at hf
  have B := C.1
  refine g_aload_n B dX6_comes_0 rfl 0 rfl ?_
  refine m_get_name C wf_RX6_31 dX6_comes_1 ?_
  refine g_iload_n B dX6_comes_4 rfl 3 rfl ?_
  obtain ⟨h1, hf⟩ := sat_chk hf
  refine m_iald C 7 (by decide) rfl h1 dX6_comes_5 ?_
  refine g_sipush (v := 1000) B dX6_comes_6 (by decide) ?_
  refine g_idiv B (by decide) dX6_comes_9 ?_
  refine g_aload_n B dX6_comes_10 rfl 0 rfl ?_
  refine m_get_name C wf_RX6_31 dX6_comes_11 ?_
  refine g_iload B dX6_comes_14 4 rfl ?_
  obtain ⟨h2, hf⟩ := sat_chk hf
  refine m_iald C 7 (by decide) rfl h2 dX6_comes_16 ?_
  refine g_sipush (v := 1000) B dX6_comes_17 (by decide) ?_
  refine g_idiv B (by decide) dX6_comes_20 ?_
  obtain ⟨σ3, r3, h3, hf⟩ := sat_ca1 hf
  refine g_cSI (rest := []) B (ck_X6_apart C h3) mo_X6_apart wm_RX6_102 (by decide) rfl rfl (Nat.le_of_ble_eq_true rfl) dX6_comes_21 ?_
  refine g_istore B [(0, .ref (kAd K 0)), (1, .int p1), (2, .int p2), (3, .int p3), (4, .int p4), (5, .int r3)] dX6_comes_24 (by decide) [1, 2, 3, 4, 5, 0] rfl ?_
  refine g_aload_n B dX6_comes_26 rfl 0 rfl ?_
  refine m_get_name C wf_RX6_31 dX6_comes_27 ?_
  refine g_iload_n B dX6_comes_30 rfl 3 rfl ?_
  obtain ⟨h4, hf⟩ := sat_chk hf
  refine m_iald C 7 (by decide) rfl h4 dX6_comes_31 ?_
  obtain ⟨σ5, r5, h5, hf⟩ := sat_ca1 hf
  refine g_cSI (rest := []) B (ck_X6_handOf C h5) mo_X6_handOf wm_RX6_105 (by decide) rfl rfl (Nat.le_of_ble_eq_true rfl) dX6_comes_32 ?_
  refine g_istore B [(0, .ref (kAd K 0)), (1, .int p1), (2, .int p2), (3, .int p3), (4, .int p4), (5, .int r3), (6, .int r5)] dX6_comes_35 (by decide) [1, 2, 3, 4, 5, 6, 0] rfl ?_
  refine g_aload_n B dX6_comes_37 rfl 0 rfl ?_
  refine m_get_name C wf_RX6_31 dX6_comes_38 ?_
  refine g_iload B dX6_comes_41 4 rfl ?_
  obtain ⟨h6, hf⟩ := sat_chk hf
  refine m_iald C 7 (by decide) rfl h6 dX6_comes_43 ?_
  obtain ⟨σ7, r7, h7, hf⟩ := sat_ca1 hf
  refine g_cSI (rest := []) B (ck_X6_handOf C h7) mo_X6_handOf wm_RX6_105 (by decide) rfl rfl (Nat.le_of_ble_eq_true rfl) dX6_comes_44 ?_
  refine g_istore B [(0, .ref (kAd K 0)), (1, .int p1), (2, .int p2), (3, .int p3), (4, .int p4), (5, .int r3), (6, .int r5), (7, .int r7)] dX6_comes_47 (by decide) [1, 2, 3, 4, 5, 6, 7, 0] rfl ?_
  refine g_iload B dX6_comes_49 6 rfl ?_
  refine g_if_eq (tgt := 87) B dX6_comes_51 (by decide) (fun c8 => ?_) (fun c8 => ?_)
  · have hf := sat_t hf c8
    refine g_iload B dX6_comes_87 5 rfl ?_
    have hf := sat_some hf
    exact g_iret B rfl rfl dX6_comes_89 hf
  · have hf := sat_f hf c8
    refine g_iload B dX6_comes_54 7 rfl ?_
    refine g_if_eq (tgt := 87) B dX6_comes_56 (by decide) (fun c9 => ?_) (fun c9 => ?_)
    · have hf := sat_t hf c9
      refine g_iload B dX6_comes_87 5 rfl ?_
      have hf := sat_some hf
      exact g_iret B rfl rfl dX6_comes_89 hf
    · have hf := sat_f hf c9
      refine g_iload B dX6_comes_59 6 rfl ?_
      refine g_iload B dX6_comes_61 7 rfl ?_
      refine g_icmp_eq (tgt := 87) B dX6_comes_63 (by decide) (fun c10 => ?_) (fun c10 => ?_)
      · have hf := sat_t hf c10
        refine g_iload B dX6_comes_87 5 rfl ?_
        have hf := sat_some hf
        exact g_iret B rfl rfl dX6_comes_89 hf
      · have hf := sat_f hf c10
        refine g_aload_n B dX6_comes_66 rfl 0 rfl ?_
        refine g_iload_n B dX6_comes_67 rfl 1 rfl ?_
        refine g_iload_n B dX6_comes_68 rfl 2 rfl ?_
        refine g_iconst (v := 1) B dX6_comes_69 (by decide) ?_
        obtain ⟨σ11, r11, h11, hf⟩ := sat_ca1 hf
        refine g_cVI (rest := []) B (ck_X6_is C h11) mo_X6_is wm_RX6_108 (by decide) (cM_o C) rfl rfl rfl (Nat.le_of_ble_eq_true rfl) dX6_comes_70 ?_
        refine g_if_ne (tgt := 87) B dX6_comes_73 (by decide) (fun c12 => ?_) (fun c12 => ?_)
        · have hf := sat_f hf c12
          refine g_iload B dX6_comes_87 5 rfl ?_
          have hf := sat_some hf
          exact g_iret B rfl rfl dX6_comes_89 hf
        · have hf := sat_t hf c12
          refine g_aload_n B dX6_comes_76 rfl 0 rfl ?_
          refine g_iload_n B dX6_comes_77 rfl 1 rfl ?_
          refine g_iload_n B dX6_comes_78 rfl 2 rfl ?_
          refine g_bipush (v := 8) B dX6_comes_79 (by decide) ?_
          obtain ⟨σ13, r13, h13, hf⟩ := sat_ca1 hf
          refine g_cVI (rest := []) B (ck_X6_is C h13) mo_X6_is wm_RX6_108 (by decide) (cM_o C) rfl rfl rfl (Nat.le_of_ble_eq_true rfl) dX6_comes_81 ?_
          refine g_if_eq (tgt := 90) B dX6_comes_84 (by decide) (fun c14 => ?_) (fun c14 => ?_)
          · have hf := sat_t hf c14
            refine g_aload_n B dX6_comes_90 rfl 0 rfl ?_
            refine g_iload_n B dX6_comes_91 rfl 1 rfl ?_
            refine g_iload_n B dX6_comes_92 rfl 2 rfl ?_
            refine g_iconst (v := 2) B dX6_comes_93 (by decide) ?_
            obtain ⟨σ15, r15, h15, hf⟩ := sat_ca1 hf
            refine g_cVI (rest := []) B (ck_X6_is C h15) mo_X6_is wm_RX6_108 (by decide) (cM_o C) rfl rfl rfl (Nat.le_of_ble_eq_true rfl) dX6_comes_94 ?_
            refine g_if_eq (tgt := 105) B dX6_comes_97 (by decide) (fun c16 => ?_) (fun c16 => ?_)
            · have hf := sat_t hf c16
              refine g_iload B dX6_comes_105 5 rfl ?_
              refine g_iconst (v := 2) B dX6_comes_107 (by decide) ?_
              refine g_iload B dX6_comes_108 6 rfl ?_
              refine g_iload B dX6_comes_110 7 rfl ?_
              obtain ⟨σ17, r17, h17, hf⟩ := sat_ca1 hf
              refine g_cSI (rest := [.int 2, .int r3]) B (ck_X6_apart C h17) mo_X6_apart wm_RX6_102 (by decide) rfl rfl (Nat.le_of_ble_eq_true rfl) dX6_comes_112 ?_
              refine g_imul B dX6_comes_115 ?_
              refine g_iadd B dX6_comes_116 ?_
              have hf := sat_some hf
              exact g_iret B rfl rfl dX6_comes_117 hf
            · have hf := sat_f hf c16
              refine g_ldc B wk_RX6_111 dX6_comes_100 ?_
              refine g_goto (tgt := 117) B dX6_comes_102 (by decide) ?_
              have hf := sat_some hf
              exact g_iret B rfl rfl dX6_comes_117 hf
          · have hf := sat_f hf c14
            refine g_iload B dX6_comes_87 5 rfl ?_
            have hf := sat_some hf
            exact g_iret B rfl rfl dX6_comes_89 hf
theorem c_X6_comes (l : Launch) (D : va_G) (Ad : Nat → Nat) (cI : ClassId) {σ : Mm} {p1 : Int32} {p2 : Int32} {p3 : Int32} {p4 : Int32} {τ : Mm} {r : Int32} (h : f_X6_comes σ p1 p2 p3 p4 = some (τ, r)) : CtI l D (tysM cI) (wdM Ad cI) StM yX6_comes cX6_comes 8 .int 2 σ [.ref (Ad 0), .int p1, .int p2, .int p3, .int p4] (τ, r) := by
  refine metI (Ad := Ad) (cI := cI) (cP := cI) (cII := cI) (by decide) (Nat.le_of_ble_eq_true rfl) (wdG_ok _ _ _) stOK_M rfl (fun K C G hR => ?_)
  have e : kAd K = Ad := G.2.2.2.2.2.1
  have C2 := cM_of C G
  have h9 := w_X6_comes C2 σ p1 p2 p3 p4 ⟨_, h, by rw [hR]; exact ⟨rfl, rfl⟩⟩
  rw [e] at h9
  exact h9
theorem ck_X6_comes {K : Kx} {cc : ByteArray} {own : String} {nL d : Nat} {rty : Option FieldType} (C : CxM K cc own nL d rty) {σ : Mm} {p1 : Int32} {p2 : Int32} {p3 : Int32} {p4 : Int32} {τ : Mm} {r : Int32} (h : f_X6_comes σ p1 p2 p3 p4 = some (τ, r)) : CtI (kl K) (kD K) (ktys K) (kwf K) (kSt K) yX6_comes cX6_comes 8 .int 2 σ [.ref (kAd K 0), .int p1, .int p2, .int p3, .int p4] (τ, r) := cM_eq C (P := fun l D tys wf St => CtI l D tys wf St yX6_comes cX6_comes 8 .int 2 σ [.ref (kAd K 0), .int p1, .int p2, .int p3, .int p4] (τ, r)) (c_X6_comes _ _ _ _ h)
def f_X6_findHardest_s51 (p1 : Int32) (p2 : Int32) (v1_3 : Int32) (σ7 : Mm) (v7_4 : Int32) (v7_5 : Int32) : Option ((Mm × Int32 × Int32) ⊕ (Mm × Int32)) :=
  chk (inb p1 3) ((if ((σ7 2 p1.toNatClampNeg) - 1) ≤ p2 then some (.inr (σ7, v7_4)) else chk (inb (p2 + 1) 12) ((if ((500 * (p2 + 1)) + (σ7 7 (p2 + 1).toNatClampNeg)) ≤ v7_5 then some (.inr (σ7, v7_4)) else bn1 (f_X6_comes σ7 p1 (p2 + 1) v1_3 v7_5) (fun σ16 r16 => chk (inb v7_5 6000) ((if v7_4 ≤ (r16 + (σ16 14 v7_5.toNatClampNeg)) then some (.inl (σ16, v7_4, (v7_5 + 1))) else some (.inl (σ16, (r16 + (σ16 14 v7_5.toNatClampNeg)), (v7_5 + 1))))))))))
def f_X6_findHardest_s6 (p2 : Int32) (p1 : Int32) (σ1 : Mm) (v1_3 : Int32) : Option ((Mm × Int32) ⊕ (Mm)) :=
  chk (inb p2 12) ((if ((500 * p2) + (σ1 7 p2.toNatClampNeg)) ≤ v1_3 then some (.inr σ1) else chk (inb p1 3) (bn1 ((if p2 = ((σ1 2 p1.toNatClampNeg) - 1) then some (σ1, 0) else some (σ1, 1000000)) : Option (Mm × Int32)) (fun σ6 w6_0 => bn1 (lq2 (f_X6_findHardest_s51 p1 p2 v1_3) fu σ6 w6_0 (500 * (p2 + 1))) (fun σ8 v8_4 => bn1 ((if v8_4 < 1000000 then chk (inb v1_3 6000) (some (σ8, ((σ8 10 v1_3.toNatClampNeg) + v8_4))) else some (σ8, 1000000)) : Option (Mm × Int32)) (fun σ9 w9_0 => chk (inb v1_3 6000) (nm (ms σ9 14 v1_3.toNatClampNeg w9_0) (fun σ10 => some (.inl (σ10, (v1_3 + 1)))))))))))
def f_X6_findHardest (σ : Mm) (p1 : Int32) (p2 : Int32) : Option (Mm) :=
  bn0 (lq1 (f_X6_findHardest_s6 p2 p1) fu σ (500 * p2)) (fun σ2 => some σ2)
set_option maxHeartbeats 4000000 in
set_option maxRecDepth 100000 in
theorem w_X6_findHardest {K : Kx} (C : CxM K cX6_findHardest RX6 7 3 none) (σ : Mm) (p1 : Int32) (p2 : Int32) (hf : Sat (f_X6_findHardest σ p1 p2) (fun o => kRt K none o)) : Gj K σ 0 [(0, .ref (kAd K 0)), (1, .int p1), (2, .int p2)] [] := by
  unfold f_X6_findHardest at hf
  have B := C.1
  refine g_sipush (v := 500) B dX6_findHardest_0 (by decide) ?_
  refine g_iload_n B dX6_findHardest_3 rfl 2 rfl ?_
  refine g_imul B dX6_findHardest_4 ?_
  refine g_istore_n B [(0, .ref (kAd K 0)), (1, .int p1), (2, .int p2), (3, .int ((500 * p2)))] dX6_findHardest_5 rfl (by decide) [1, 2, 3, 0] rfl ?_
  have hf := sat_cu0 (G := fun σ2 => Gj K σ2 160 [] []) hf (by
    intro σ2 hf
    have hf := sat_some hf
    exact g_vret B rfl dX6_findHardest_160 hf)
  refine lqr1 (Gh := fun σ1 v1_3 => Gj K σ1 6 [(0, .ref (kAd K 0)), (1, .int p1), (2, .int p2), (3, .int v1_3)] []) ?_ fu σ (500 * p2) hf
  intro σ1 v1_3 hf
  unfold f_X6_findHardest_s6 at hf
  refine g_iload_n B dX6_findHardest_6 rfl 3 rfl ?_
  refine g_sipush (v := 500) B dX6_findHardest_7 (by decide) ?_
  refine g_iload_n B dX6_findHardest_10 rfl 2 rfl ?_
  refine g_imul B dX6_findHardest_11 ?_
  refine g_aload_n B dX6_findHardest_12 rfl 0 rfl ?_
  refine m_get_holds C wf_RX6_28 dX6_findHardest_13 ?_
  refine g_iload_n B dX6_findHardest_16 rfl 2 rfl ?_
  obtain ⟨h3, hf⟩ := sat_chk hf
  refine m_iald C 6 (by decide) rfl h3 dX6_findHardest_17 ?_
  refine g_iadd B dX6_findHardest_18 ?_
  refine g_icmp_ge (tgt := 160) B dX6_findHardest_19 (by decide) (fun c4 => ?_) (fun c4 => ?_)
  · have hf := sat_t hf c4
    have hf := sum_r (sat_some hf)
    exact g_sub hf [] rfl
  · have hf := sat_f hf c4
    refine g_iload_n B dX6_findHardest_22 rfl 2 rfl ?_
    refine g_aload_n B dX6_findHardest_23 rfl 0 rfl ?_
    refine m_get_notes C wf_RX6_13 dX6_findHardest_24 ?_
    refine g_iload_n B dX6_findHardest_27 rfl 1 rfl ?_
    obtain ⟨h5, hf⟩ := sat_chk hf
    refine m_iald C 1 (by decide) rfl h5 dX6_findHardest_28 ?_
    refine g_iconst (v := 1) B dX6_findHardest_29 (by decide) ?_
    refine g_isub B dX6_findHardest_30 ?_
    have hf := sat_cu1 (G := fun σ6 w6_0 => Gj K σ6 40 [(0, .ref (kAd K 0)), (1, .int p1), (2, .int p2), (3, .int v1_3)] [.int w6_0]) hf (by
      intro σ6 w6_0 hf
      refine g_istore B [(0, .ref (kAd K 0)), (1, .int p1), (2, .int p2), (3, .int v1_3), (4, .int w6_0)] dX6_findHardest_40 (by decide) [1, 2, 3, 4, 0] rfl ?_
      refine g_sipush (v := 500) B dX6_findHardest_42 (by decide) ?_
      refine g_iload_n B dX6_findHardest_45 rfl 2 rfl ?_
      refine g_iconst (v := 1) B dX6_findHardest_46 (by decide) ?_
      refine g_iadd B dX6_findHardest_47 ?_
      refine g_imul B dX6_findHardest_48 ?_
      refine g_istore B [(0, .ref (kAd K 0)), (1, .int p1), (2, .int p2), (3, .int v1_3), (4, .int w6_0), (5, .int ((500 * (p2 + 1))))] dX6_findHardest_49 (by decide) [1, 2, 3, 4, 5, 0] rfl ?_
      have hf := sat_cu1 (G := fun σ8 v8_4 => Gj K σ8 127 [(0, .ref (kAd K 0)), (1, .int p1), (2, .int p2), (3, .int v1_3), (4, .int v8_4)] []) hf (by
        intro σ8 v8_4 hf
        refine g_aload_n B dX6_findHardest_127 rfl 0 rfl ?_
        refine m_get_hardest C wf_RX6_49 dX6_findHardest_128 ?_
        refine g_iload_n B dX6_findHardest_131 rfl 3 rfl ?_
        refine g_iload B dX6_findHardest_132 4 rfl ?_
        refine g_ldc B wk_RX6_111 dX6_findHardest_134 ?_
        have hf := sat_cu1 (G := fun σ9 w9_0 => Gj K σ9 153 [(0, .ref (kAd K 0)), (1, .int p1), (2, .int p2), (3, .int v1_3)] [.int w9_0, .int v1_3, .ref (kAd K 14)]) hf (by
          intro σ9 w9_0 hf
          obtain ⟨h10, hf⟩ := sat_chk hf
          obtain ⟨σ10, e10, hf⟩ := sat_nm hf
          refine m_iast C 13 (by decide) rfl h10 dX6_findHardest_153 (g_mem2 e10 ?_)
          refine g_iinc B (v1_3 + 1) [(0, .ref (kAd K 0)), (1, .int p1), (2, .int p2), (3, .int ((v1_3 + 1)))] dX6_findHardest_154 3 rfl rfl (by decide) [1, 2, 3, 0] rfl ?_
          refine g_goto (tgt := 6) B dX6_findHardest_157 (by decide) ?_
          have hf := sum_l (sat_some hf)
          exact g_sub hf [0, 1, 2, 3] rfl)
        refine g_icmp_lt (tgt := 144) B dX6_findHardest_136 (by decide) (fun c9 => ?_) (fun c9 => ?_)
        · have hf := sat_t hf c9
          refine g_aload_n B dX6_findHardest_144 rfl 0 rfl ?_
          refine m_get_extra C wf_RX6_37 dX6_findHardest_145 ?_
          refine g_iload_n B dX6_findHardest_148 rfl 3 rfl ?_
          obtain ⟨h11, hf⟩ := sat_chk hf
          refine m_iald C 9 (by decide) rfl h11 dX6_findHardest_149 ?_
          refine g_iload B dX6_findHardest_150 4 rfl ?_
          refine g_iadd B dX6_findHardest_152 ?_
          have hf := sat_some hf
          exact g_sub hf [0, 1, 2, 3] rfl
        · have hf := sat_f hf c9
          refine g_ldc B wk_RX6_111 dX6_findHardest_139 ?_
          refine g_goto (tgt := 153) B dX6_findHardest_141 (by decide) ?_
          have hf := sat_some hf
          exact g_sub hf [0, 1, 2, 3] rfl)
      refine lqr2 (Gh := fun σ7 v7_4 v7_5 => Gj K σ7 51 [(0, .ref (kAd K 0)), (1, .int p1), (2, .int p2), (3, .int v1_3), (4, .int v7_4), (5, .int v7_5)] []) ?_ fu σ6 w6_0 (500 * (p2 + 1)) hf
      intro σ7 v7_4 v7_5 hf
      unfold f_X6_findHardest_s51 at hf
      refine g_iload_n B dX6_findHardest_51 rfl 2 rfl ?_
      refine g_aload_n B dX6_findHardest_52 rfl 0 rfl ?_
      refine m_get_notes C wf_RX6_13 dX6_findHardest_53 ?_
      refine g_iload_n B dX6_findHardest_56 rfl 1 rfl ?_
      obtain ⟨h12, hf⟩ := sat_chk hf
      refine m_iald C 1 (by decide) rfl h12 dX6_findHardest_57 ?_
      refine g_iconst (v := 1) B dX6_findHardest_58 (by decide) ?_
      refine g_isub B dX6_findHardest_59 ?_
      refine g_icmp_ge (tgt := 127) B dX6_findHardest_60 (by decide) (fun c13 => ?_) (fun c13 => ?_)
      · have hf := sat_t hf c13
        have hf := sum_r (sat_some hf)
        exact g_sub hf [0, 1, 2, 3, 4] rfl
      · have hf := sat_f hf c13
        refine g_iload B dX6_findHardest_63 5 rfl ?_
        refine g_sipush (v := 500) B dX6_findHardest_65 (by decide) ?_
        refine g_iload_n B dX6_findHardest_68 rfl 2 rfl ?_
        refine g_iconst (v := 1) B dX6_findHardest_69 (by decide) ?_
        refine g_iadd B dX6_findHardest_70 ?_
        refine g_imul B dX6_findHardest_71 ?_
        refine g_aload_n B dX6_findHardest_72 rfl 0 rfl ?_
        refine m_get_holds C wf_RX6_28 dX6_findHardest_73 ?_
        refine g_iload_n B dX6_findHardest_76 rfl 2 rfl ?_
        refine g_iconst (v := 1) B dX6_findHardest_77 (by decide) ?_
        refine g_iadd B dX6_findHardest_78 ?_
        obtain ⟨h14, hf⟩ := sat_chk hf
        refine m_iald C 6 (by decide) rfl h14 dX6_findHardest_79 ?_
        refine g_iadd B dX6_findHardest_80 ?_
        refine g_icmp_ge (tgt := 127) B dX6_findHardest_81 (by decide) (fun c15 => ?_) (fun c15 => ?_)
        · have hf := sat_t hf c15
          have hf := sum_r (sat_some hf)
          exact g_sub hf [0, 1, 2, 3, 4] rfl
        · have hf := sat_f hf c15
          refine g_aload_n B dX6_findHardest_84 rfl 0 rfl ?_
          refine g_iload_n B dX6_findHardest_85 rfl 1 rfl ?_
          refine g_iload_n B dX6_findHardest_86 rfl 2 rfl ?_
          refine g_iconst (v := 1) B dX6_findHardest_87 (by decide) ?_
          refine g_iadd B dX6_findHardest_88 ?_
          refine g_iload_n B dX6_findHardest_89 rfl 3 rfl ?_
          refine g_iload B dX6_findHardest_90 5 rfl ?_
          obtain ⟨σ16, r16, h16, hf⟩ := sat_ca1 hf
          refine g_cVI (rest := []) B (ck_X6_comes C h16) mo_X6_comes wm_RX6_112 (by decide) (cM_o C) rfl rfl rfl (Nat.le_of_ble_eq_true rfl) dX6_findHardest_92 ?_
          refine g_aload_n B dX6_findHardest_95 rfl 0 rfl ?_
          refine m_get_hardest C wf_RX6_49 dX6_findHardest_96 ?_
          refine g_iload B dX6_findHardest_99 5 rfl ?_
          obtain ⟨h17, hf⟩ := sat_chk hf
          refine m_iald C 13 (by decide) rfl h17 dX6_findHardest_101 ?_
          refine g_iadd B dX6_findHardest_102 ?_
          refine g_istore B [(0, .ref (kAd K 0)), (1, .int p1), (2, .int p2), (3, .int v1_3), (4, .int v7_4), (5, .int v7_5), (6, .int ((r16 + (σ16 14 v7_5.toNatClampNeg))))] dX6_findHardest_103 (by decide) [1, 2, 3, 4, 5, 6, 0] rfl ?_
          refine g_iload B dX6_findHardest_105 6 rfl ?_
          refine g_iload B dX6_findHardest_107 4 rfl ?_
          refine g_icmp_ge (tgt := 117) B dX6_findHardest_109 (by decide) (fun c18 => ?_) (fun c18 => ?_)
          · have hf := sat_t hf c18
            refine g_iload B dX6_findHardest_117 4 rfl ?_
            refine g_istore B [(0, .ref (kAd K 0)), (1, .int p1), (2, .int p2), (3, .int v1_3), (4, .int v7_4), (5, .int v7_5), (6, .int ((r16 + (σ16 14 v7_5.toNatClampNeg))))] dX6_findHardest_119 (by decide) [1, 2, 3, 4, 0, 5, 6] rfl ?_
            refine g_iinc B (v7_5 + 1) [(0, .ref (kAd K 0)), (1, .int p1), (2, .int p2), (3, .int v1_3), (4, .int v7_4), (5, .int ((v7_5 + 1))), (6, .int ((r16 + (σ16 14 v7_5.toNatClampNeg))))] dX6_findHardest_121 5 rfl rfl (by decide) [1, 2, 3, 4, 5, 0, 6] rfl ?_
            refine g_goto (tgt := 51) B dX6_findHardest_124 (by decide) ?_
            have hf := sum_l (sat_some hf)
            exact g_sub hf [0, 1, 2, 3, 4, 5] rfl
          · have hf := sat_f hf c18
            refine g_iload B dX6_findHardest_112 6 rfl ?_
            refine g_goto (tgt := 119) B dX6_findHardest_114 (by decide) ?_
            refine g_istore B [(0, .ref (kAd K 0)), (1, .int p1), (2, .int p2), (3, .int v1_3), (4, .int ((r16 + (σ16 14 v7_5.toNatClampNeg)))), (5, .int v7_5), (6, .int ((r16 + (σ16 14 v7_5.toNatClampNeg))))] dX6_findHardest_119 (by decide) [1, 2, 3, 4, 0, 5, 6] rfl ?_
            refine g_iinc B (v7_5 + 1) [(0, .ref (kAd K 0)), (1, .int p1), (2, .int p2), (3, .int v1_3), (4, .int ((r16 + (σ16 14 v7_5.toNatClampNeg)))), (5, .int ((v7_5 + 1))), (6, .int ((r16 + (σ16 14 v7_5.toNatClampNeg))))] dX6_findHardest_121 5 rfl rfl (by decide) [1, 2, 3, 4, 5, 0, 6] rfl ?_
            refine g_goto (tgt := 51) B dX6_findHardest_124 (by decide) ?_
            have hf := sum_l (sat_some hf)
            exact g_sub hf [0, 1, 2, 3, 4, 5] rfl)
    refine g_icmp_ne (tgt := 38) B dX6_findHardest_31 (by decide) (fun c6 => ?_) (fun c6 => ?_)
    · have hf := sat_f hf c6
      refine g_ldc B wk_RX6_111 dX6_findHardest_38 ?_
      have hf := sat_some hf
      exact g_sub hf [0, 1, 2, 3] rfl
    · have hf := sat_t hf c6
      refine g_iconst (v := 0) B dX6_findHardest_34 (by decide) ?_
      refine g_goto (tgt := 40) B dX6_findHardest_35 (by decide) ?_
      have hf := sat_some hf
      exact g_sub hf [0, 1, 2, 3] rfl
theorem c_X6_findHardest (l : Launch) (D : va_G) (Ad : Nat → Nat) (cI : ClassId) {σ : Mm} {p1 : Int32} {p2 : Int32} {τ : Mm} (h : f_X6_findHardest σ p1 p2 = some τ) : CtV l D (tysM cI) (wdM Ad cI) StM yX6_findHardest cX6_findHardest 7 3 σ [.ref (Ad 0), .int p1, .int p2] τ := by
  refine metV (Ad := Ad) (cI := cI) (cP := cI) (cII := cI) (by decide) (Nat.le_of_ble_eq_true rfl) (wdG_ok _ _ _) stOK_M rfl (fun K C G hR => ?_)
  have e : kAd K = Ad := G.2.2.2.2.2.1
  have C2 := cM_of C G
  have h9 := w_X6_findHardest C2 σ p1 p2 ⟨_, h, by rw [hR]; exact ⟨rfl, rfl⟩⟩
  rw [e] at h9
  exact h9
theorem ck_X6_findHardest {K : Kx} {cc : ByteArray} {own : String} {nL d : Nat} {rty : Option FieldType} (C : CxM K cc own nL d rty) {σ : Mm} {p1 : Int32} {p2 : Int32} {τ : Mm} (h : f_X6_findHardest σ p1 p2 = some τ) : CtV (kl K) (kD K) (ktys K) (kwf K) (kSt K) yX6_findHardest cX6_findHardest 7 3 σ [.ref (kAd K 0), .int p1, .int p2] τ := cM_eq C (P := fun l D tys wf St => CtV l D tys wf St yX6_findHardest cX6_findHardest 7 3 σ [.ref (kAd K 0), .int p1, .int p2] τ) (c_X6_findHardest _ _ _ _ h)
def f_X6_makeFingers_s158 (p1 : Int32) (v13_2 : Int32) (σ13 : Mm) (σ18 : Mm) (v18_4 : Int32) : Option ((Mm × Int32) ⊕ (Mm × Int32)) :=
  bn1 (f_X6_comes σ18 p1 v13_2 (σ13 15 (v13_2 - 1).toNatClampNeg) v18_4) (fun σ21 r21 => chk (inb v18_4 6000) (chk (inb (σ13 15 (v13_2 - 1).toNatClampNeg) 6000) (chk (inb (σ13 15 (v13_2 - 1).toNatClampNeg) 6000) ((if ((r21 + (σ21 14 v18_4.toNatClampNeg)) + (σ21 10 (σ13 15 (v13_2 - 1).toNatClampNeg).toNatClampNeg)) = (σ21 14 (σ13 15 (v13_2 - 1).toNatClampNeg).toNatClampNeg) then some (.inr (σ21, v18_4)) else some (.inl (σ21, (v18_4 + 1))))))))
def f_X6_makeFingers_s132 (p1 : Int32) (σ13 : Mm) (v13_2 : Int32) : Option ((Mm × Int32) ⊕ (Mm)) :=
  chk (inb p1 3) ((if (σ13 2 p1.toNatClampNeg) ≤ v13_2 then some (.inr σ13) else chk (inb (v13_2 - 1) 12) (bn1 (lq1 (f_X6_makeFingers_s158 p1 v13_2 σ13) fu σ13 (500 * v13_2)) (fun σ19 v19_4 => chk (inb v13_2 12) (nm (ms σ19 15 v13_2.toNatClampNeg v19_4) (fun σ20 => some (.inl (σ20, (v13_2 + 1)))))))))
def f_X6_makeFingers_s73 (σ10 : Mm) (v10_2 : Int32) : Option ((Mm × Int32) ⊕ (Mm)) :=
  chk (inb 0 12) ((if (σ10 7 (0 : Int32).toNatClampNeg) ≤ v10_2 then some (.inr σ10) else chk (inb v10_2 6000) ((if (σ10 0 0) ≤ (σ10 14 v10_2.toNatClampNeg) then some (.inl (σ10, (v10_2 + 1))) else chk (inb v10_2 6000) (nm (ms σ10 0 0 (σ10 14 v10_2.toNatClampNeg)) (fun σ31 => chk (inb 0 12) (nm (ms σ31 15 (0 : Int32).toNatClampNeg v10_2) (fun σ32 => some (.inl (σ32, (v10_2 + 1)))))))))))
def f_X6_makeFingers_s49 (p1 : Int32) (σ7 : Mm) (v7_2 : Int32) : Option ((Mm × Int32) ⊕ (Mm)) :=
  (if v7_2 < 0 then some (.inr σ7) else bn0 (f_X6_findHardest σ7 p1 v7_2) (fun σ34 => some (.inl (σ34, (v7_2 + (-1))))))
def f_X6_makeFingers_s18 (p1 : Int32) (σ4 : Mm) (v4_2 : Int32) : Option ((Mm × Int32) ⊕ (Mm)) :=
  chk (inb p1 3) ((if (σ4 2 p1.toNatClampNeg) ≤ v4_2 then some (.inr σ4) else bn0 (f_X6_findHolds σ4 p1 v4_2) (fun σ37 => some (.inl (σ37, (v4_2 + 1))))))
def f_X6_makeFingers (σ : Mm) (p1 : Int32) : Option (Mm × Int32) :=
  nm (ms σ 0 0 0) (fun σ1 => chk (inb p1 3) ((if (σ1 2 p1.toNatClampNeg) = 0 then some (σ1, 1) else bn0 (lq1 (f_X6_makeFingers_s18 p1) fu σ1 0) (fun σ5 => chk (inb p1 3) (bn0 (lq1 (f_X6_makeFingers_s49 p1) fu σ5 ((σ5 2 p1.toNatClampNeg) - 1)) (fun σ8 => nm (ms σ8 0 0 1000000) (fun σ9 => bn0 (lq1 f_X6_makeFingers_s73 fu σ9 0) (fun σ11 => (if (σ11 0 0) = 1000000 then some (σ11, 0) else bn0 (lq1 (f_X6_makeFingers_s132 p1) fu σ11 1) (fun σ14 => some (σ14, 1)))))))))))
set_option maxHeartbeats 4000000 in
set_option maxRecDepth 100000 in
theorem w_X6_makeFingers {K : Kx} (C : CxM K cX6_makeFingers RX6 5 4 (some .boolean)) (σ : Mm) (p1 : Int32) (hf : Sat (f_X6_makeFingers σ p1) (fun o => kRt K (some (.int o.2)) o.1)) : Gj K σ 0 [(0, .ref (kAd K 0)), (1, .int p1)] [] := by
  unfold f_X6_makeFingers at hf
  have B := C.1
  refine g_aload_n B dX6_makeFingers_0 rfl 0 rfl ?_
  refine g_iconst (v := 0) B dX6_makeFingers_1 (by decide) ?_
  obtain ⟨σ1, e1, hf⟩ := sat_nm hf
  refine m_put_least C wf_RX6_116 dX6_makeFingers_2 (g_mem2 e1 ?_)
  refine g_aload_n B dX6_makeFingers_5 rfl 0 rfl ?_
  refine m_get_notes C wf_RX6_13 dX6_makeFingers_6 ?_
  refine g_iload_n B dX6_makeFingers_9 rfl 1 rfl ?_
  obtain ⟨h2, hf⟩ := sat_chk hf
  refine m_iald C 1 (by decide) rfl h2 dX6_makeFingers_10 ?_
  refine g_if_ne (tgt := 16) B dX6_makeFingers_11 (by decide) (fun c3 => ?_) (fun c3 => ?_)
  · have hf := sat_f hf c3
    refine g_iconst (v := 0) B dX6_makeFingers_16 (by decide) ?_
    refine g_istore_n B [(0, .ref (kAd K 0)), (1, .int p1), (2, .int 0)] dX6_makeFingers_17 rfl (by decide) [1, 2, 0] rfl ?_
    have hf := sat_cu0 (G := fun σ5 => Gj K σ5 40 [(0, .ref (kAd K 0)), (1, .int p1)] []) hf (by
      intro σ5 hf
      refine g_aload_n B dX6_makeFingers_40 rfl 0 rfl ?_
      refine m_get_notes C wf_RX6_13 dX6_makeFingers_41 ?_
      refine g_iload_n B dX6_makeFingers_44 rfl 1 rfl ?_
      obtain ⟨h6, hf⟩ := sat_chk hf
      refine m_iald C 1 (by decide) rfl h6 dX6_makeFingers_45 ?_
      refine g_iconst (v := 1) B dX6_makeFingers_46 (by decide) ?_
      refine g_isub B dX6_makeFingers_47 ?_
      refine g_istore_n B [(0, .ref (kAd K 0)), (1, .int p1), (2, .int (((σ5 2 p1.toNatClampNeg) - 1)))] dX6_makeFingers_48 rfl (by decide) [1, 2, 0] rfl ?_
      have hf := sat_cu0 (G := fun σ8 => Gj K σ8 65 [(0, .ref (kAd K 0)), (1, .int p1)] []) hf (by
        intro σ8 hf
        refine g_aload_n B dX6_makeFingers_65 rfl 0 rfl ?_
        refine g_ldc B wk_RX6_111 dX6_makeFingers_66 ?_
        obtain ⟨σ9, e9, hf⟩ := sat_nm hf
        refine m_put_least C wf_RX6_116 dX6_makeFingers_68 (g_mem2 e9 ?_)
        refine g_iconst (v := 0) B dX6_makeFingers_71 (by decide) ?_
        refine g_istore_n B [(0, .ref (kAd K 0)), (1, .int p1), (2, .int 0)] dX6_makeFingers_72 rfl (by decide) [1, 2, 0] rfl ?_
        have hf := sat_cu0 (G := fun σ11 => Gj K σ11 119 [(0, .ref (kAd K 0)), (1, .int p1)] []) hf (by
          intro σ11 hf
          refine g_aload_n B dX6_makeFingers_119 rfl 0 rfl ?_
          refine m_get_least C wf_RX6_116 dX6_makeFingers_120 ?_
          refine g_ldc B wk_RX6_111 dX6_makeFingers_123 ?_
          refine g_icmp_ne (tgt := 130) B dX6_makeFingers_125 (by decide) (fun c12 => ?_) (fun c12 => ?_)
          · have hf := sat_f hf c12
            refine g_iconst (v := 1) B dX6_makeFingers_130 (by decide) ?_
            refine g_istore_n B [(0, .ref (kAd K 0)), (1, .int p1), (2, .int 1)] dX6_makeFingers_131 rfl (by decide) [1, 2, 0] rfl ?_
            have hf := sat_cu0 (G := fun σ14 => Gj K σ14 211 [] []) hf (by
              intro σ14 hf
              refine g_iconst (v := 1) B dX6_makeFingers_211 (by decide) ?_
              have hf := sat_some hf
              exact g_iret B rfl rfl dX6_makeFingers_212 hf)
            refine lqr1 (Gh := fun σ13 v13_2 => Gj K σ13 132 [(0, .ref (kAd K 0)), (1, .int p1), (2, .int v13_2)] []) ?_ fu σ11 1 hf
            intro σ13 v13_2 hf
            unfold f_X6_makeFingers_s132 at hf
            refine g_iload_n B dX6_makeFingers_132 rfl 2 rfl ?_
            refine g_aload_n B dX6_makeFingers_133 rfl 0 rfl ?_
            refine m_get_notes C wf_RX6_13 dX6_makeFingers_134 ?_
            refine g_iload_n B dX6_makeFingers_137 rfl 1 rfl ?_
            obtain ⟨h15, hf⟩ := sat_chk hf
            refine m_iald C 1 (by decide) rfl h15 dX6_makeFingers_138 ?_
            refine g_icmp_ge (tgt := 211) B dX6_makeFingers_139 (by decide) (fun c16 => ?_) (fun c16 => ?_)
            · have hf := sat_t hf c16
              have hf := sum_r (sat_some hf)
              exact g_sub hf [] rfl
            · have hf := sat_f hf c16
              refine g_aload_n B dX6_makeFingers_142 rfl 0 rfl ?_
              refine m_get_chosen C wf_RX6_52 dX6_makeFingers_143 ?_
              refine g_iload_n B dX6_makeFingers_146 rfl 2 rfl ?_
              refine g_iconst (v := 1) B dX6_makeFingers_147 (by decide) ?_
              refine g_isub B dX6_makeFingers_148 ?_
              obtain ⟨h17, hf⟩ := sat_chk hf
              refine m_iald C 14 (by decide) rfl h17 dX6_makeFingers_149 ?_
              refine g_istore_n B [(0, .ref (kAd K 0)), (1, .int p1), (2, .int v13_2), (3, .int ((σ13 15 (v13_2 - 1).toNatClampNeg)))] dX6_makeFingers_150 rfl (by decide) [1, 2, 3, 0] rfl ?_
              refine g_sipush (v := 500) B dX6_makeFingers_151 (by decide) ?_
              refine g_iload_n B dX6_makeFingers_154 rfl 2 rfl ?_
              refine g_imul B dX6_makeFingers_155 ?_
              refine g_istore B [(0, .ref (kAd K 0)), (1, .int p1), (2, .int v13_2), (3, .int ((σ13 15 (v13_2 - 1).toNatClampNeg))), (4, .int ((500 * v13_2)))] dX6_makeFingers_156 (by decide) [1, 2, 3, 4, 0] rfl ?_
              have hf := sat_cu1 (G := fun σ19 v19_4 => Gj K σ19 197 [(0, .ref (kAd K 0)), (1, .int p1), (2, .int v13_2), (4, .int v19_4)] []) hf (by
                intro σ19 v19_4 hf
                refine g_aload_n B dX6_makeFingers_197 rfl 0 rfl ?_
                refine m_get_chosen C wf_RX6_52 dX6_makeFingers_198 ?_
                refine g_iload_n B dX6_makeFingers_201 rfl 2 rfl ?_
                refine g_iload B dX6_makeFingers_202 3 rfl ?_
                obtain ⟨h20, hf⟩ := sat_chk hf
                obtain ⟨σ20, e20, hf⟩ := sat_nm hf
                refine m_iast C 14 (by decide) rfl h20 dX6_makeFingers_204 (g_mem2 e20 ?_)
                refine g_iinc B (v13_2 + 1) [(0, .ref (kAd K 0)), (1, .int p1), (2, .int ((v13_2 + 1))), (4, .int v19_4)] dX6_makeFingers_205 2 rfl rfl (by decide) [1, 2, 0, 3] rfl ?_
                refine g_goto (tgt := 132) B dX6_makeFingers_208 (by decide) ?_
                have hf := sum_l (sat_some hf)
                exact g_sub hf [0, 1, 2] rfl)
              refine lqr1 (Gh := fun σ18 v18_4 => Gj K σ18 158 [(0, .ref (kAd K 0)), (1, .int p1), (2, .int v13_2), (3, .int ((σ13 15 (v13_2 - 1).toNatClampNeg))), (4, .int v18_4)] []) ?_ fu σ13 (500 * v13_2) hf
              intro σ18 v18_4 hf
              unfold f_X6_makeFingers_s158 at hf
              refine g_aload_n B dX6_makeFingers_158 rfl 0 rfl ?_
              refine g_iload_n B dX6_makeFingers_159 rfl 1 rfl ?_
              refine g_iload_n B dX6_makeFingers_160 rfl 2 rfl ?_
              refine g_iload_n B dX6_makeFingers_161 rfl 3 rfl ?_
              refine g_iload B dX6_makeFingers_162 4 rfl ?_
              obtain ⟨σ21, r21, h21, hf⟩ := sat_ca1 hf
              refine g_cVI (rest := []) B (ck_X6_comes C h21) mo_X6_comes wm_RX6_112 (by decide) (cM_o C) rfl rfl rfl (Nat.le_of_ble_eq_true rfl) dX6_makeFingers_164 ?_
              refine g_aload_n B dX6_makeFingers_167 rfl 0 rfl ?_
              refine m_get_hardest C wf_RX6_49 dX6_makeFingers_168 ?_
              refine g_iload B dX6_makeFingers_171 4 rfl ?_
              obtain ⟨h22, hf⟩ := sat_chk hf
              refine m_iald C 13 (by decide) rfl h22 dX6_makeFingers_173 ?_
              refine g_iadd B dX6_makeFingers_174 ?_
              refine g_aload_n B dX6_makeFingers_175 rfl 0 rfl ?_
              refine m_get_extra C wf_RX6_37 dX6_makeFingers_176 ?_
              refine g_iload_n B dX6_makeFingers_179 rfl 3 rfl ?_
              obtain ⟨h23, hf⟩ := sat_chk hf
              refine m_iald C 9 (by decide) rfl h23 dX6_makeFingers_180 ?_
              refine g_iadd B dX6_makeFingers_181 ?_
              refine g_aload_n B dX6_makeFingers_182 rfl 0 rfl ?_
              refine m_get_hardest C wf_RX6_49 dX6_makeFingers_183 ?_
              refine g_iload_n B dX6_makeFingers_186 rfl 3 rfl ?_
              obtain ⟨h24, hf⟩ := sat_chk hf
              refine m_iald C 13 (by decide) rfl h24 dX6_makeFingers_187 ?_
              refine g_icmp_eq (tgt := 197) B dX6_makeFingers_188 (by decide) (fun c25 => ?_) (fun c25 => ?_)
              · have hf := sat_t hf c25
                have hf := sum_r (sat_some hf)
                exact g_sub hf [0, 1, 2, 4] rfl
              · have hf := sat_f hf c25
                refine g_iinc B (v18_4 + 1) [(0, .ref (kAd K 0)), (1, .int p1), (2, .int v13_2), (3, .int ((σ13 15 (v13_2 - 1).toNatClampNeg))), (4, .int ((v18_4 + 1)))] dX6_makeFingers_191 4 rfl rfl (by decide) [1, 2, 3, 4, 0] rfl ?_
                refine g_goto (tgt := 158) B dX6_makeFingers_194 (by decide) ?_
                have hf := sum_l (sat_some hf)
                exact g_sub hf [0, 1, 2, 3, 4] rfl
          · have hf := sat_t hf c12
            refine g_iconst (v := 0) B dX6_makeFingers_128 (by decide) ?_
            have hf := sat_some hf
            exact g_iret B rfl rfl dX6_makeFingers_129 hf)
        refine lqr1 (Gh := fun σ10 v10_2 => Gj K σ10 73 [(0, .ref (kAd K 0)), (1, .int p1), (2, .int v10_2)] []) ?_ fu σ9 0 hf
        intro σ10 v10_2 hf
        unfold f_X6_makeFingers_s73 at hf
        refine g_iload_n B dX6_makeFingers_73 rfl 2 rfl ?_
        refine g_aload_n B dX6_makeFingers_74 rfl 0 rfl ?_
        refine m_get_holds C wf_RX6_28 dX6_makeFingers_75 ?_
        refine g_iconst (v := 0) B dX6_makeFingers_78 (by decide) ?_
        obtain ⟨h26, hf⟩ := sat_chk hf
        refine m_iald C 6 (by decide) rfl h26 dX6_makeFingers_79 ?_
        refine g_icmp_ge (tgt := 119) B dX6_makeFingers_80 (by decide) (fun c27 => ?_) (fun c27 => ?_)
        · have hf := sat_t hf c27
          have hf := sum_r (sat_some hf)
          exact g_sub hf [0, 1] rfl
        · have hf := sat_f hf c27
          refine g_aload_n B dX6_makeFingers_83 rfl 0 rfl ?_
          refine m_get_hardest C wf_RX6_49 dX6_makeFingers_84 ?_
          refine g_iload_n B dX6_makeFingers_87 rfl 2 rfl ?_
          obtain ⟨h28, hf⟩ := sat_chk hf
          refine m_iald C 13 (by decide) rfl h28 dX6_makeFingers_88 ?_
          refine g_aload_n B dX6_makeFingers_89 rfl 0 rfl ?_
          refine m_get_least C wf_RX6_116 dX6_makeFingers_90 ?_
          refine g_icmp_ge (tgt := 113) B dX6_makeFingers_93 (by decide) (fun c29 => ?_) (fun c29 => ?_)
          · have hf := sat_t hf c29
            refine g_iinc B (v10_2 + 1) [(0, .ref (kAd K 0)), (1, .int p1), (2, .int ((v10_2 + 1)))] dX6_makeFingers_113 2 rfl rfl (by decide) [1, 2, 0] rfl ?_
            refine g_goto (tgt := 73) B dX6_makeFingers_116 (by decide) ?_
            have hf := sum_l (sat_some hf)
            exact g_sub hf [0, 1, 2] rfl
          · have hf := sat_f hf c29
            refine g_aload_n B dX6_makeFingers_96 rfl 0 rfl ?_
            refine g_aload_n B dX6_makeFingers_97 rfl 0 rfl ?_
            refine m_get_hardest C wf_RX6_49 dX6_makeFingers_98 ?_
            refine g_iload_n B dX6_makeFingers_101 rfl 2 rfl ?_
            obtain ⟨h30, hf⟩ := sat_chk hf
            refine m_iald C 13 (by decide) rfl h30 dX6_makeFingers_102 ?_
            obtain ⟨σ31, e31, hf⟩ := sat_nm hf
            refine m_put_least C wf_RX6_116 dX6_makeFingers_103 (g_mem2 e31 ?_)
            refine g_aload_n B dX6_makeFingers_106 rfl 0 rfl ?_
            refine m_get_chosen C wf_RX6_52 dX6_makeFingers_107 ?_
            refine g_iconst (v := 0) B dX6_makeFingers_110 (by decide) ?_
            refine g_iload_n B dX6_makeFingers_111 rfl 2 rfl ?_
            obtain ⟨h32, hf⟩ := sat_chk hf
            obtain ⟨σ32, e32, hf⟩ := sat_nm hf
            refine m_iast C 14 (by decide) rfl h32 dX6_makeFingers_112 (g_mem2 e32 ?_)
            refine g_iinc B (v10_2 + 1) [(0, .ref (kAd K 0)), (1, .int p1), (2, .int ((v10_2 + 1)))] dX6_makeFingers_113 2 rfl rfl (by decide) [1, 2, 0] rfl ?_
            refine g_goto (tgt := 73) B dX6_makeFingers_116 (by decide) ?_
            have hf := sum_l (sat_some hf)
            exact g_sub hf [0, 1, 2] rfl)
      refine lqr1 (Gh := fun σ7 v7_2 => Gj K σ7 49 [(0, .ref (kAd K 0)), (1, .int p1), (2, .int v7_2)] []) ?_ fu σ5 ((σ5 2 p1.toNatClampNeg) - 1) hf
      intro σ7 v7_2 hf
      unfold f_X6_makeFingers_s49 at hf
      refine g_iload_n B dX6_makeFingers_49 rfl 2 rfl ?_
      refine g_if_lt (tgt := 65) B dX6_makeFingers_50 (by decide) (fun c33 => ?_) (fun c33 => ?_)
      · have hf := sat_t hf c33
        have hf := sum_r (sat_some hf)
        exact g_sub hf [0, 1] rfl
      · have hf := sat_f hf c33
        refine g_aload_n B dX6_makeFingers_53 rfl 0 rfl ?_
        refine g_iload_n B dX6_makeFingers_54 rfl 1 rfl ?_
        refine g_iload_n B dX6_makeFingers_55 rfl 2 rfl ?_
        obtain ⟨σ34, h34, hf⟩ := sat_ca0 hf
        refine g_cVV (rest := []) B (ck_X6_findHardest C h34) mo_X6_findHardest wm_RX6_120 (by decide) (cM_o C) rfl rfl rfl (Nat.le_of_ble_eq_true rfl) dX6_makeFingers_56 ?_
        refine g_iinc B (v7_2 + (-1)) [(0, .ref (kAd K 0)), (1, .int p1), (2, .int ((v7_2 + (-1))))] dX6_makeFingers_59 2 rfl rfl (by decide) [1, 2, 0] rfl ?_
        refine g_goto (tgt := 49) B dX6_makeFingers_62 (by decide) ?_
        have hf := sum_l (sat_some hf)
        exact g_sub hf [0, 1, 2] rfl)
    refine lqr1 (Gh := fun σ4 v4_2 => Gj K σ4 18 [(0, .ref (kAd K 0)), (1, .int p1), (2, .int v4_2)] []) ?_ fu σ1 0 hf
    intro σ4 v4_2 hf
    unfold f_X6_makeFingers_s18 at hf
    refine g_iload_n B dX6_makeFingers_18 rfl 2 rfl ?_
    refine g_aload_n B dX6_makeFingers_19 rfl 0 rfl ?_
    refine m_get_notes C wf_RX6_13 dX6_makeFingers_20 ?_
    refine g_iload_n B dX6_makeFingers_23 rfl 1 rfl ?_
    obtain ⟨h35, hf⟩ := sat_chk hf
    refine m_iald C 1 (by decide) rfl h35 dX6_makeFingers_24 ?_
    refine g_icmp_ge (tgt := 40) B dX6_makeFingers_25 (by decide) (fun c36 => ?_) (fun c36 => ?_)
    · have hf := sat_t hf c36
      have hf := sum_r (sat_some hf)
      exact g_sub hf [0, 1] rfl
    · have hf := sat_f hf c36
      refine g_aload_n B dX6_makeFingers_28 rfl 0 rfl ?_
      refine g_iload_n B dX6_makeFingers_29 rfl 1 rfl ?_
      refine g_iload_n B dX6_makeFingers_30 rfl 2 rfl ?_
      obtain ⟨σ37, h37, hf⟩ := sat_ca0 hf
      refine g_cVV (rest := []) B (ck_X6_findHolds C h37) mo_X6_findHolds wm_RX6_98 (by decide) (cM_o C) rfl rfl rfl (Nat.le_of_ble_eq_true rfl) dX6_makeFingers_31 ?_
      refine g_iinc B (v4_2 + 1) [(0, .ref (kAd K 0)), (1, .int p1), (2, .int ((v4_2 + 1)))] dX6_makeFingers_34 2 rfl rfl (by decide) [1, 2, 0] rfl ?_
      refine g_goto (tgt := 18) B dX6_makeFingers_37 (by decide) ?_
      have hf := sum_l (sat_some hf)
      exact g_sub hf [0, 1, 2] rfl
  · have hf := sat_t hf c3
    refine g_iconst (v := 1) B dX6_makeFingers_14 (by decide) ?_
    have hf := sat_some hf
    exact g_iret B rfl rfl dX6_makeFingers_15 hf
theorem c_X6_makeFingers (l : Launch) (D : va_G) (Ad : Nat → Nat) (cI : ClassId) {σ : Mm} {p1 : Int32} {τ : Mm} {r : Int32} (h : f_X6_makeFingers σ p1 = some (τ, r)) : CtI l D (tysM cI) (wdM Ad cI) StM yX6_makeFingers cX6_makeFingers 5 .boolean 4 σ [.ref (Ad 0), .int p1] (τ, r) := by
  refine metI (Ad := Ad) (cI := cI) (cP := cI) (cII := cI) (by decide) (Nat.le_of_ble_eq_true rfl) (wdG_ok _ _ _) stOK_M rfl (fun K C G hR => ?_)
  have e : kAd K = Ad := G.2.2.2.2.2.1
  have C2 := cM_of C G
  have h9 := w_X6_makeFingers C2 σ p1 ⟨_, h, by rw [hR]; exact ⟨rfl, rfl⟩⟩
  rw [e] at h9
  exact h9
theorem ck_X6_makeFingers {K : Kx} {cc : ByteArray} {own : String} {nL d : Nat} {rty : Option FieldType} (C : CxM K cc own nL d rty) {σ : Mm} {p1 : Int32} {τ : Mm} {r : Int32} (h : f_X6_makeFingers σ p1 = some (τ, r)) : CtI (kl K) (kD K) (ktys K) (kwf K) (kSt K) yX6_makeFingers cX6_makeFingers 5 .boolean 4 σ [.ref (kAd K 0), .int p1] (τ, r) := cM_eq C (P := fun l D tys wf St => CtI l D tys wf St yX6_makeFingers cX6_makeFingers 5 .boolean 4 σ [.ref (kAd K 0), .int p1] (τ, r)) (c_X6_makeFingers _ _ _ _ h)
