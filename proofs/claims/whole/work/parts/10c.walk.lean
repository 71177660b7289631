def f_X6_findHolds_s48 (p2 : Int32) (v2_4 : Int32) (σ16 : Mm) (v16_5 : Int32) : Option ((Mm × Int32) ⊕ (Mm)) :=
  chk (inb 0 2) ((if (σ16 13 (0 : Int32).toNatClampNeg) ≤ v16_5 then some (.inr σ16) else chk (inb v16_5 18) (chk (inb v16_5 18) (chk (inb v16_5 18) (bn1 (f_X6_highs σ16 (σ16 12 v16_5.toNatClampNeg)) (fun σ23 r23 => bn0 (f_X6_keep σ23 p2 (((1000 * v2_4) + (10 * (σ16 11 v16_5.toNatClampNeg))) + (σ16 12 v16_5.toNatClampNeg)) (-1) r23) (fun σ24 => some (.inl (σ24, (v16_5 + 1))))))))))
def f_X6_findHolds_s17 (p1 : Int32) (p2 : Int32) (σ2 : Mm) (v2_4 : Int32) : Option ((Mm × Int32) ⊕ (Mm)) :=
  (if 4 ≤ v2_4 then some (.inr σ2) else chk (inb ((12 * p1) + p2) 36) ((if 0 ≤ (σ2 4 ((12 * p1) + p2).toNatClampNeg) then (if 3 ≤ v2_4 then some (.inl (σ2, (v2_4 + 1))) else chk (inb ((12 * p1) + p2) 36) (chk (inb ((12 * p1) + p2) 36) (bn0 (f_X6_findDouble σ2 p2 v2_4 (σ2 3 ((12 * p1) + p2).toNatClampNeg) (σ2 4 ((12 * p1) + p2).toNatClampNeg)) (fun σ10 => chk (inb ((12 * p1) + p2) 36) (chk (inb ((12 * p1) + p2) 36) (bn0 (f_X6_findDouble σ10 p2 v2_4 (σ10 4 ((12 * p1) + p2).toNatClampNeg) (σ10 3 ((12 * p1) + p2).toNatClampNeg)) (fun σ13 => some (.inl (σ13, (v2_4 + 1)))))))))) else chk (inb ((12 * p1) + p2) 36) (bn0 (f_X6_findOnes σ2 0 v2_4 (σ2 3 ((12 * p1) + p2).toNatClampNeg)) (fun σ15 => bn0 (lq1 (f_X6_findHolds_s48 p2 v2_4) fu σ15 0) (fun σ17 => some (.inl (σ17, (v2_4 + 1)))))))))
def f_X6_findHolds (σ : Mm) (p1 : Int32) (p2 : Int32) : Option (Mm) :=
  chk (inb p2 12) (nm (ms σ 7 p2.toNatClampNeg 0) (fun σ1 => bn0 (lq1 (f_X6_findHolds_s17 p1 p2) fu σ1 0) (fun σ3 => some σ3)))
set_option maxHeartbeats 4000000 in
set_option maxRecDepth 100000 in
theorem w_X6_findHolds {K : Kx} (C : CxM K cX6_findHolds RX6 6 3 none) (σ : Mm) (p1 : Int32) (p2 : Int32) (hf : Sat (f_X6_findHolds σ p1 p2) (fun o => kRt K none o)) : Gj K σ 0 [(0, .ref (kAd K 0)), (1, .int p1), (2, .int p2)] [] := by
  unfold f_X6_findHolds at hf
  have B := C.1
  refine g_aload_n B dX6_findHolds_0 rfl 0 rfl ?_
  refine m_get_holds C wf_RX6_28 dX6_findHolds_1 ?_
  refine g_iload_n B dX6_findHolds_4 rfl 2 rfl ?_
  refine g_iconst (v := 0) B dX6_findHolds_5 (by decide) ?_
  obtain ⟨h1, hf⟩ := sat_chk hf
  obtain ⟨σ1, e1, hf⟩ := sat_nm hf
  refine m_iast C 6 (by decide) rfl h1 dX6_findHolds_6 (g_mem2 e1 ?_)
  refine g_bipush (v := 12) B dX6_findHolds_7 (by decide) ?_
  refine g_iload_n B dX6_findHolds_9 rfl 1 rfl ?_
  refine g_imul B dX6_findHolds_10 ?_
  refine g_iload_n B dX6_findHolds_11 rfl 2 rfl ?_
  refine g_iadd B dX6_findHolds_12 ?_
  refine g_istore_n B [(0, .ref (kAd K 0)), (1, .int p1), (2, .int p2), (3, .int (((12 * p1) + p2)))] dX6_findHolds_13 rfl (by decide) [1, 2, 3, 0] rfl ?_
  refine g_iconst (v := 0) B dX6_findHolds_14 (by decide) ?_
  refine g_istore B [(0, .ref (kAd K 0)), (1, .int p1), (2, .int p2), (3, .int (((12 * p1) + p2))), (4, .int 0)] dX6_findHolds_15 (by decide) [1, 2, 3, 4, 0] rfl ?_
  refine g_sub (lv' := [(0, .ref (kAd K 0)), (2, .int p2), (3, .int (((12 * p1) + p2))), (4, .int 0)]) ?_ [0, 2, 3, 4] rfl
  have hf := sat_cu0 (G := fun σ3 => Gj K σ3 159 [] []) hf (by
    intro σ3 hf
    have hf := sat_some hf
    exact g_vret B rfl dX6_findHolds_159 hf)
  refine lqr1 (Gh := fun σ2 v2_4 => Gj K σ2 17 [(0, .ref (kAd K 0)), (2, .int p2), (3, .int (((12 * p1) + p2))), (4, .int v2_4)] []) ?_ fu σ1 0 hf
  intro σ2 v2_4 hf
  unfold f_X6_findHolds_s17 at hf
  refine g_iload B dX6_findHolds_17 3 rfl ?_
  refine g_iconst (v := 4) B dX6_findHolds_19 (by decide) ?_
  refine g_icmp_ge (tgt := 159) B dX6_findHolds_20 (by decide) (fun c4 => ?_) (fun c4 => ?_)
  · have hf := sat_t hf c4
    have hf := sum_r (sat_some hf)
    exact g_sub hf [] rfl
  · have hf := sat_f hf c4
    refine g_aload_n B dX6_findHolds_23 rfl 0 rfl ?_
    refine m_get_second C wf_RX6_19 dX6_findHolds_24 ?_
    refine g_iload_n B dX6_findHolds_27 rfl 2 rfl ?_
    obtain ⟨h5, hf⟩ := sat_chk hf
    refine m_iald C 3 (by decide) rfl h5 dX6_findHolds_28 ?_
    refine g_if_ge (tgt := 109) B dX6_findHolds_29 (by decide) (fun c6 => ?_) (fun c6 => ?_)
    · have hf := sat_t hf c6
      refine g_iload B dX6_findHolds_109 3 rfl ?_
      refine g_iconst (v := 3) B dX6_findHolds_111 (by decide) ?_
      refine g_icmp_ge (tgt := 153) B dX6_findHolds_112 (by decide) (fun c7 => ?_) (fun c7 => ?_)
      · have hf := sat_t hf c7
        refine g_iinc B (v2_4 + 1) [(0, .ref (kAd K 0)), (2, .int p2), (3, .int (((12 * p1) + p2))), (4, .int ((v2_4 + 1)))] dX6_findHolds_153 3 rfl rfl (by decide) [1, 2, 3, 0] rfl ?_
        refine g_goto (tgt := 17) B dX6_findHolds_156 (by decide) ?_
        have hf := sum_l (sat_some hf)
        exact g_sub hf [0, 1, 2, 3] rfl
      · have hf := sat_f hf c7
        refine g_aload_n B dX6_findHolds_115 rfl 0 rfl ?_
        refine g_iload_n B dX6_findHolds_116 rfl 1 rfl ?_
        refine g_iload B dX6_findHolds_117 3 rfl ?_
        refine g_aload_n B dX6_findHolds_119 rfl 0 rfl ?_
        refine m_get_pitch C wf_RX6_16 dX6_findHolds_120 ?_
        refine g_iload_n B dX6_findHolds_123 rfl 2 rfl ?_
        obtain ⟨h8, hf⟩ := sat_chk hf
        refine m_iald C 2 (by decide) rfl h8 dX6_findHolds_124 ?_
        refine g_aload_n B dX6_findHolds_125 rfl 0 rfl ?_
        refine m_get_second C wf_RX6_19 dX6_findHolds_126 ?_
        refine g_iload_n B dX6_findHolds_129 rfl 2 rfl ?_
        obtain ⟨h9, hf⟩ := sat_chk hf
        refine m_iald C 3 (by decide) rfl h9 dX6_findHolds_130 ?_
        obtain ⟨σ10, h10, hf⟩ := sat_ca0 hf
        refine g_cVV (rest := []) B (ck_X6_findDouble C h10) mo_X6_findDouble wm_RX6_91 (by decide) (cM_o C) rfl rfl rfl (Nat.le_of_ble_eq_true rfl) dX6_findHolds_131 ?_
        refine g_aload_n B dX6_findHolds_134 rfl 0 rfl ?_
        refine g_iload_n B dX6_findHolds_135 rfl 1 rfl ?_
        refine g_iload B dX6_findHolds_136 3 rfl ?_
        refine g_aload_n B dX6_findHolds_138 rfl 0 rfl ?_
        refine m_get_second C wf_RX6_19 dX6_findHolds_139 ?_
        refine g_iload_n B dX6_findHolds_142 rfl 2 rfl ?_
        obtain ⟨h11, hf⟩ := sat_chk hf
        refine m_iald C 3 (by decide) rfl h11 dX6_findHolds_143 ?_
        refine g_aload_n B dX6_findHolds_144 rfl 0 rfl ?_
        refine m_get_pitch C wf_RX6_16 dX6_findHolds_145 ?_
        refine g_iload_n B dX6_findHolds_148 rfl 2 rfl ?_
        obtain ⟨h12, hf⟩ := sat_chk hf
        refine m_iald C 2 (by decide) rfl h12 dX6_findHolds_149 ?_
        obtain ⟨σ13, h13, hf⟩ := sat_ca0 hf
        refine g_cVV (rest := []) B (ck_X6_findDouble C h13) mo_X6_findDouble wm_RX6_91 (by decide) (cM_o C) rfl rfl rfl (Nat.le_of_ble_eq_true rfl) dX6_findHolds_150 ?_
        refine g_iinc B (v2_4 + 1) [(0, .ref (kAd K 0)), (2, .int p2), (3, .int (((12 * p1) + p2))), (4, .int ((v2_4 + 1)))] dX6_findHolds_153 3 rfl rfl (by decide) [1, 2, 3, 0] rfl ?_
        refine g_goto (tgt := 17) B dX6_findHolds_156 (by decide) ?_
        have hf := sum_l (sat_some hf)
        exact g_sub hf [0, 1, 2, 3] rfl
    · have hf := sat_f hf c6
      refine g_aload_n B dX6_findHolds_32 rfl 0 rfl ?_
      refine g_iconst (v := 0) B dX6_findHolds_33 (by decide) ?_
      refine g_iload B dX6_findHolds_34 3 rfl ?_
      refine g_aload_n B dX6_findHolds_36 rfl 0 rfl ?_
      refine m_get_pitch C wf_RX6_16 dX6_findHolds_37 ?_
      refine g_iload_n B dX6_findHolds_40 rfl 2 rfl ?_
      obtain ⟨h14, hf⟩ := sat_chk hf
      refine m_iald C 2 (by decide) rfl h14 dX6_findHolds_41 ?_
      obtain ⟨σ15, h15, hf⟩ := sat_ca0 hf
      refine g_cVV (rest := []) B (ck_X6_findOnes C h15) mo_X6_findOnes wm_RX6_79 (by decide) (cM_o C) rfl rfl rfl (Nat.le_of_ble_eq_true rfl) dX6_findHolds_42 ?_
      refine g_iconst (v := 0) B dX6_findHolds_45 (by decide) ?_
      refine g_istore B [(0, .ref (kAd K 0)), (2, .int p2), (3, .int (((12 * p1) + p2))), (4, .int v2_4), (5, .int 0)] dX6_findHolds_46 (by decide) [1, 2, 3, 4, 0] rfl ?_
      have hf := sat_cu0 (G := fun σ17 => Gj K σ17 106 [(0, .ref (kAd K 0)), (2, .int p2), (3, .int (((12 * p1) + p2))), (4, .int v2_4)] []) hf (by
        intro σ17 hf
        refine g_goto (tgt := 153) B dX6_findHolds_106 (by decide) ?_
        refine g_iinc B (v2_4 + 1) [(0, .ref (kAd K 0)), (2, .int p2), (3, .int (((12 * p1) + p2))), (4, .int ((v2_4 + 1)))] dX6_findHolds_153 3 rfl rfl (by decide) [1, 2, 3, 0] rfl ?_
        refine g_goto (tgt := 17) B dX6_findHolds_156 (by decide) ?_
        have hf := sum_l (sat_some hf)
        exact g_sub hf [0, 1, 2, 3] rfl)
      refine lqr1 (Gh := fun σ16 v16_5 => Gj K σ16 48 [(0, .ref (kAd K 0)), (2, .int p2), (3, .int (((12 * p1) + p2))), (4, .int v2_4), (5, .int v16_5)] []) ?_ fu σ15 0 hf
      intro σ16 v16_5 hf
      unfold f_X6_findHolds_s48 at hf
      refine g_iload B dX6_findHolds_48 4 rfl ?_
      refine g_aload_n B dX6_findHolds_50 rfl 0 rfl ?_
      refine m_get_ones C wf_RX6_46 dX6_findHolds_51 ?_
      refine g_iconst (v := 0) B dX6_findHolds_54 (by decide) ?_
      obtain ⟨h18, hf⟩ := sat_chk hf
      refine m_iald C 12 (by decide) rfl h18 dX6_findHolds_55 ?_
      refine g_icmp_ge (tgt := 106) B dX6_findHolds_56 (by decide) (fun c19 => ?_) (fun c19 => ?_)
      · have hf := sat_t hf c19
        have hf := sum_r (sat_some hf)
        exact g_sub hf [0, 1, 2, 3] rfl
      · have hf := sat_f hf c19
        refine g_aload_n B dX6_findHolds_59 rfl 0 rfl ?_
        refine g_iload_n B dX6_findHolds_60 rfl 1 rfl ?_
        refine g_sipush (v := 1000) B dX6_findHolds_61 (by decide) ?_
        refine g_iload B dX6_findHolds_64 3 rfl ?_
        refine g_imul B dX6_findHolds_66 ?_
        refine g_bipush (v := 10) B dX6_findHolds_67 (by decide) ?_
        refine g_aload_n B dX6_findHolds_69 rfl 0 rfl ?_
        refine m_get_oneHand C wf_RX6_40 dX6_findHolds_70 ?_
        refine g_iload B dX6_findHolds_73 4 rfl ?_
        obtain ⟨h20, hf⟩ := sat_chk hf
        refine m_iald C 10 (by decide) rfl h20 dX6_findHolds_75 ?_
        refine g_imul B dX6_findHolds_76 ?_
        refine g_iadd B dX6_findHolds_77 ?_
        refine g_aload_n B dX6_findHolds_78 rfl 0 rfl ?_
        refine m_get_oneLast C wf_RX6_43 dX6_findHolds_79 ?_
        refine g_iload B dX6_findHolds_82 4 rfl ?_
        obtain ⟨h21, hf⟩ := sat_chk hf
        refine m_iald C 11 (by decide) rfl h21 dX6_findHolds_84 ?_
        refine g_iadd B dX6_findHolds_85 ?_
        refine g_iconst (v := (-1)) B dX6_findHolds_86 (by decide) ?_
        refine g_aload_n B dX6_findHolds_87 rfl 0 rfl ?_
        refine m_get_oneLast C wf_RX6_43 dX6_findHolds_88 ?_
        refine g_iload B dX6_findHolds_91 4 rfl ?_
        obtain ⟨h22, hf⟩ := sat_chk hf
        refine m_iald C 11 (by decide) rfl h22 dX6_findHolds_93 ?_
        obtain ⟨σ23, r23, h23, hf⟩ := sat_ca1 hf
        refine g_cSI (rest := [.int ((-1)), .int ((((1000 * v2_4) + (10 * (σ16 11 v16_5.toNatClampNeg))) + (σ16 12 v16_5.toNatClampNeg))), .int p2, .ref (kAd K 0)]) B (ck_X6_highs C h23) mo_X6_highs wm_RX6_83 (by decide) rfl rfl (Nat.le_of_ble_eq_true rfl) dX6_findHolds_94 ?_
        obtain ⟨σ24, h24, hf⟩ := sat_ca0 hf
        refine g_cVV (rest := []) B (ck_X6_keep C h24) mo_X6_keep wm_RX6_87 (by decide) (cM_o C) rfl rfl rfl (Nat.le_of_ble_eq_true rfl) dX6_findHolds_97 ?_
        refine g_iinc B (v16_5 + 1) [(0, .ref (kAd K 0)), (2, .int p2), (3, .int (((12 * p1) + p2))), (4, .int v2_4), (5, .int ((v16_5 + 1)))] dX6_findHolds_100 4 rfl rfl (by decide) [1, 2, 3, 4, 0] rfl ?_
        refine g_goto (tgt := 48) B dX6_findHolds_103 (by decide) ?_
        have hf := sum_l (sat_some hf)
        exact g_sub hf [0, 1, 2, 3, 4] rfl
theorem c_X6_findHolds (l : Launch) (D : va_G) (Ad : Nat → Nat) (cI : ClassId) {σ : Mm} {p1 : Int32} {p2 : Int32} {τ : Mm} (h : f_X6_findHolds σ p1 p2 = some τ) : CtV l D (tysM cI) (wdM Ad cI) StM yX6_findHolds cX6_findHolds 6 3 σ [.ref (Ad 0), .int p1, .int p2] τ := by
  refine metV (Ad := Ad) (cI := cI) (cP := cI) (cII := cI) (by decide) (Nat.le_of_ble_eq_true rfl) (wdG_ok _ _ _) stOK_M rfl (fun K C G hR => ?_)
  have e : kAd K = Ad := G.2.2.2.2.2.1
  have C2 := cM_of C G
  have h9 := w_X6_findHolds C2 σ p1 p2 ⟨_, h, by rw [hR]; exact ⟨rfl, rfl⟩⟩
  rw [e] at h9
  exact h9
theorem ck_X6_findHolds {K : Kx} {cc : ByteArray} {own : String} {nL d : Nat} {rty : Option FieldType} (C : CxM K cc own nL d rty) {σ : Mm} {p1 : Int32} {p2 : Int32} {τ : Mm} (h : f_X6_findHolds σ p1 p2 = some τ) : CtV (kl K) (kD K) (ktys K) (kwf K) (kSt K) yX6_findHolds cX6_findHolds 6 3 σ [.ref (kAd K 0), .int p1, .int p2] τ := cM_eq C (P := fun l D tys wf St => CtV l D tys wf St yX6_findHolds cX6_findHolds 6 3 σ [.ref (kAd K 0), .int p1, .int p2] τ) (c_X6_findHolds _ _ _ _ h)
def f_X6_onset_s5 (p2 : Int32) (p1 : Int32) (σ1 : Mm) (v1_3 : Int32) (v1_4 : Int32) : Option ((Mm × Int32 × Int32) ⊕ (Mm × Int32)) :=
  (if p2 ≤ v1_4 then some (.inr (σ1, v1_3)) else chk (inb ((12 * p1) + v1_4) 36) (some (.inl (σ1, (v1_3 + (σ1 5 ((12 * p1) + v1_4).toNatClampNeg)), (v1_4 + 1)))))
def f_X6_onset (σ : Mm) (p1 : Int32) (p2 : Int32) : Option (Mm × Int32) :=
  bn1 (lq2 (f_X6_onset_s5 p2 p1) fu σ 0 0) (fun σ2 v2_3 => some (σ2, v2_3))
set_option maxHeartbeats 4000000 in
set_option maxRecDepth 100000 in
theorem w_X6_onset {K : Kx} (C : CxM K cX6_onset RX6 5 0 (some .int)) (σ : Mm) (p1 : Int32) (p2 : Int32) (hf : Sat (f_X6_onset σ p1 p2) (fun o => kRt K (some (.int o.2)) o.1)) : Gj K σ 0 [(0, .ref (kAd K 0)), (1, .int p1), (2, .int p2)] [] := by
  unfold f_X6_onset at hf
  have B := C.1
  refine g_iconst (v := 0) B dX6_onset_0 (by decide) ?_
  refine g_istore_n B [(0, .ref (kAd K 0)), (1, .int p1), (2, .int p2), (3, .int 0)] dX6_onset_1 rfl (by decide) [1, 2, 3, 0] rfl ?_
  refine g_iconst (v := 0) B dX6_onset_2 (by decide) ?_
  refine g_istore B [(0, .ref (kAd K 0)), (1, .int p1), (2, .int p2), (3, .int 0), (4, .int 0)] dX6_onset_3 (by decide) [1, 2, 3, 4, 0] rfl ?_
  have hf := sat_cu1 (G := fun σ2 v2_3 => Gj K σ2 32 [(3, .int v2_3)] []) hf (by
    intro σ2 v2_3 hf
    refine g_iload_n B dX6_onset_32 rfl 0 rfl ?_
    have hf := sat_some hf
    exact g_iret B rfl rfl dX6_onset_33 hf)
  refine lqr2 (Gh := fun σ1 v1_3 v1_4 => Gj K σ1 5 [(0, .ref (kAd K 0)), (1, .int p1), (2, .int p2), (3, .int v1_3), (4, .int v1_4)] []) ?_ fu σ 0 0 hf
  intro σ1 v1_3 v1_4 hf
  unfold f_X6_onset_s5 at hf
  refine g_iload B dX6_onset_5 4 rfl ?_
  refine g_iload_n B dX6_onset_7 rfl 2 rfl ?_
  refine g_icmp_ge (tgt := 32) B dX6_onset_8 (by decide) (fun c3 => ?_) (fun c3 => ?_)
  · have hf := sat_t hf c3
    have hf := sum_r (sat_some hf)
    exact g_sub hf [3] rfl
  · have hf := sat_f hf c3
    refine g_iload_n B dX6_onset_11 rfl 3 rfl ?_
    refine g_aload_n B dX6_onset_12 rfl 0 rfl ?_
    refine m_get_length C wf_RX6_22 dX6_onset_13 ?_
    refine g_bipush (v := 12) B dX6_onset_16 (by decide) ?_
    refine g_iload_n B dX6_onset_18 rfl 1 rfl ?_
    refine g_imul B dX6_onset_19 ?_
    refine g_iload B dX6_onset_20 4 rfl ?_
    refine g_iadd B dX6_onset_22 ?_
    obtain ⟨h4, hf⟩ := sat_chk hf
    refine m_iald C 4 (by decide) rfl h4 dX6_onset_23 ?_
    refine g_iadd B dX6_onset_24 ?_
    refine g_istore_n B [(0, .ref (kAd K 0)), (1, .int p1), (2, .int p2), (3, .int ((v1_3 + (σ1 5 ((12 * p1) + v1_4).toNatClampNeg)))), (4, .int v1_4)] dX6_onset_25 rfl (by decide) [1, 2, 3, 0, 4] rfl ?_
    refine g_iinc B (v1_4 + 1) [(0, .ref (kAd K 0)), (1, .int p1), (2, .int p2), (3, .int ((v1_3 + (σ1 5 ((12 * p1) + v1_4).toNatClampNeg)))), (4, .int ((v1_4 + 1)))] dX6_onset_26 4 rfl rfl (by decide) [1, 2, 3, 4, 0] rfl ?_
    refine g_goto (tgt := 5) B dX6_onset_29 (by decide) ?_
    have hf := sum_l (sat_some hf)
    exact g_sub hf [0, 1, 2, 3, 4] rfl
theorem c_X6_onset (l : Launch) (D : va_G) (Ad : Nat → Nat) (cI : ClassId) {σ : Mm} {p1 : Int32} {p2 : Int32} {τ : Mm} {r : Int32} (h : f_X6_onset σ p1 p2 = some (τ, r)) : CtI l D (tysM cI) (wdM Ad cI) StM yX6_onset cX6_onset 5 .int 0 σ [.ref (Ad 0), .int p1, .int p2] (τ, r) := by
  refine metI (Ad := Ad) (cI := cI) (cP := cI) (cII := cI) (by decide) (Nat.le_of_ble_eq_true rfl) (wdG_ok _ _ _) stOK_M rfl (fun K C G hR => ?_)
  have e : kAd K = Ad := G.2.2.2.2.2.1
  have C2 := cM_of C G
  have h9 := w_X6_onset C2 σ p1 p2 ⟨_, h, by rw [hR]; exact ⟨rfl, rfl⟩⟩
  rw [e] at h9
  exact h9
theorem ck_X6_onset {K : Kx} {cc : ByteArray} {own : String} {nL d : Nat} {rty : Option FieldType} (C : CxM K cc own nL d rty) {σ : Mm} {p1 : Int32} {p2 : Int32} {τ : Mm} {r : Int32} (h : f_X6_onset σ p1 p2 = some (τ, r)) : CtI (kl K) (kD K) (ktys K) (kwf K) (kSt K) yX6_onset cX6_onset 5 .int 0 σ [.ref (kAd K 0), .int p1, .int p2] (τ, r) := cM_eq C (P := fun l D tys wf St => CtI l D tys wf St yX6_onset cX6_onset 5 .int 0 σ [.ref (kAd K 0), .int p1, .int p2] (τ, r)) (c_X6_onset _ _ _ _ h)
def f_X6_of (σ : Mm) (p1 : Int32) (p2 : Int32) (p3 : Int32) : Option (Mm × Int32) :=
  bn1 (f_X6_isNote σ p1 p2) (fun σ1 r1 => (if r1 = 0 then some (σ1, (-1)) else (if p3 = 0 then chk (inb ((12 * p1) + p2) 36) (some (σ1, (σ1 3 ((12 * p1) + p2).toNatClampNeg))) else (if p3 = 1 then chk (inb ((12 * p1) + p2) 36) (some (σ1, (σ1 5 ((12 * p1) + p2).toNatClampNeg))) else (if p3 = 2 then chk (inb ((12 * p1) + p2) 36) (some (σ1, (σ1 6 ((12 * p1) + p2).toNatClampNeg))) else (if p3 = 3 then chk (inb ((12 * p1) + p2) 36) ((if 0 ≤ (σ1 4 ((12 * p1) + p2).toNatClampNeg) then chk (inb ((12 * p1) + p2) 36) (some (σ1, (σ1 4 ((12 * p1) + p2).toNatClampNeg))) else some (σ1, (-3)))) else (if p3 = 4 then bn1 (f_X6_onset σ1 p1 p2) (fun σ10 r10 => some (σ10, r10)) else (if p3 = 5 then bn0 (f_X6_findHolds σ1 p1 p2) (fun σ11 => chk (inb p2 12) (some (σ11, (σ11 7 p2.toNatClampNeg)))) else some (σ1, (-1))))))))))
set_option maxHeartbeats 4000000 in
set_option maxRecDepth 100000 in
theorem w_X6_of {K : Kx} (C : CxM K cX6_of RX6 5 4 (some .int)) (σ : Mm) (p1 : Int32) (p2 : Int32) (p3 : Int32) (hf : Sat (f_X6_of σ p1 p2 p3) (fun o => kRt K (some (.int o.2)) o.1)) : Gj K σ 0 [(0, .ref (kAd K 0)), (1, .int p1), (2, .int p2), (3, .int p3)] [] := by
  unfold f_X6_of at hf
  have B := C.1
  refine g_aload_n B dX6_of_0 rfl 0 rfl ?_
  refine g_iload_n B dX6_of_1 rfl 1 rfl ?_
  refine g_iload_n B dX6_of_2 rfl 2 rfl ?_
  obtain ⟨σ1, r1, h1, hf⟩ := sat_ca1 hf
  refine g_cVI (rest := []) B (ck_X6_isNote C h1) mo_X6_isNote wm_RX6_76 (by decide) (cM_o C) rfl rfl rfl (Nat.le_of_ble_eq_true rfl) dX6_of_3 ?_
  refine g_if_ne (tgt := 11) B dX6_of_6 (by decide) (fun c2 => ?_) (fun c2 => ?_)
  · have hf := sat_f hf c2
    refine g_bipush (v := 12) B dX6_of_11 (by decide) ?_
    refine g_iload_n B dX6_of_13 rfl 1 rfl ?_
    refine g_imul B dX6_of_14 ?_
    refine g_iload_n B dX6_of_15 rfl 2 rfl ?_
    refine g_iadd B dX6_of_16 ?_
    refine g_istore B [(0, .ref (kAd K 0)), (1, .int p1), (2, .int p2), (3, .int p3), (4, .int (((12 * p1) + p2)))] dX6_of_17 (by decide) [1, 2, 3, 4, 0] rfl ?_
    refine g_iload_n B dX6_of_19 rfl 3 rfl ?_
    by_cases c3_0 : p3 = 0
    · have hf := sat_t hf c3_0
      refine g_tabIn (tgt := 60) (off := 40) B c3_0 dX6_of_20 (by decide) (by decide) (by decide) (by decide) ?_
      refine g_aload_n B dX6_of_60 rfl 0 rfl ?_
      refine m_get_pitch C wf_RX6_16 dX6_of_61 ?_
      refine g_iload B dX6_of_64 4 rfl ?_
      obtain ⟨h4, hf⟩ := sat_chk hf
      refine m_iald C 2 (by decide) rfl h4 dX6_of_66 ?_
      have hf := sat_some hf
      exact g_iret B rfl rfl dX6_of_67 hf
    · have hf := sat_f hf c3_0
      by_cases c3_1 : p3 = 1
      · have hf := sat_t hf c3_1
        refine g_tabIn (tgt := 68) (off := 48) B c3_1 dX6_of_20 (by decide) (by decide) (by decide) (by decide) ?_
        refine g_aload_n B dX6_of_68 rfl 0 rfl ?_
        refine m_get_length C wf_RX6_22 dX6_of_69 ?_
        refine g_iload B dX6_of_72 4 rfl ?_
        obtain ⟨h5, hf⟩ := sat_chk hf
        refine m_iald C 4 (by decide) rfl h5 dX6_of_74 ?_
        have hf := sat_some hf
        exact g_iret B rfl rfl dX6_of_75 hf
      · have hf := sat_f hf c3_1
        by_cases c3_2 : p3 = 2
        · have hf := sat_t hf c3_2
          refine g_tabIn (tgt := 76) (off := 56) B c3_2 dX6_of_20 (by decide) (by decide) (by decide) (by decide) ?_
          refine g_aload_n B dX6_of_76 rfl 0 rfl ?_
          refine m_get_marks C wf_RX6_25 dX6_of_77 ?_
          refine g_iload B dX6_of_80 4 rfl ?_
          obtain ⟨h6, hf⟩ := sat_chk hf
          refine m_iald C 5 (by decide) rfl h6 dX6_of_82 ?_
          have hf := sat_some hf
          exact g_iret B rfl rfl dX6_of_83 hf
        · have hf := sat_f hf c3_2
          by_cases c3_3 : p3 = 3
          · have hf := sat_t hf c3_3
            refine g_tabIn (tgt := 84) (off := 64) B c3_3 dX6_of_20 (by decide) (by decide) (by decide) (by decide) ?_
            refine g_aload_n B dX6_of_84 rfl 0 rfl ?_
            refine m_get_second C wf_RX6_19 dX6_of_85 ?_
            refine g_iload B dX6_of_88 4 rfl ?_
            obtain ⟨h7, hf⟩ := sat_chk hf
            refine m_iald C 3 (by decide) rfl h7 dX6_of_90 ?_
            refine g_if_ge (tgt := 99) B dX6_of_91 (by decide) (fun c8 => ?_) (fun c8 => ?_)
            · have hf := sat_t hf c8
              refine g_aload_n B dX6_of_99 rfl 0 rfl ?_
              refine m_get_second C wf_RX6_19 dX6_of_100 ?_
              refine g_iload B dX6_of_103 4 rfl ?_
              obtain ⟨h9, hf⟩ := sat_chk hf
              refine m_iald C 3 (by decide) rfl h9 dX6_of_105 ?_
              have hf := sat_some hf
              exact g_iret B rfl rfl dX6_of_106 hf
            · have hf := sat_f hf c8
              refine g_bipush (v := (-3)) B dX6_of_94 (by decide) ?_
              refine g_goto (tgt := 106) B dX6_of_96 (by decide) ?_
              have hf := sat_some hf
              exact g_iret B rfl rfl dX6_of_106 hf
          · have hf := sat_f hf c3_3
            by_cases c3_4 : p3 = 4
            · have hf := sat_t hf c3_4
              refine g_tabIn (tgt := 107) (off := 87) B c3_4 dX6_of_20 (by decide) (by decide) (by decide) (by decide) ?_
              refine g_aload_n B dX6_of_107 rfl 0 rfl ?_
              refine g_iload_n B dX6_of_108 rfl 1 rfl ?_
              refine g_iload_n B dX6_of_109 rfl 2 rfl ?_
              obtain ⟨σ10, r10, h10, hf⟩ := sat_ca1 hf
              refine g_cVI (rest := []) B (ck_X6_onset C h10) mo_X6_onset wm_RX6_94 (by decide) (cM_o C) rfl rfl rfl (Nat.le_of_ble_eq_true rfl) dX6_of_110 ?_
              have hf := sat_some hf
              exact g_iret B rfl rfl dX6_of_113 hf
            · have hf := sat_f hf c3_4
              by_cases c3_5 : p3 = 5
              · have hf := sat_t hf c3_5
                refine g_tabIn (tgt := 114) (off := 94) B c3_5 dX6_of_20 (by decide) (by decide) (by decide) (by decide) ?_
                refine g_aload_n B dX6_of_114 rfl 0 rfl ?_
                refine g_iload_n B dX6_of_115 rfl 1 rfl ?_
                refine g_iload_n B dX6_of_116 rfl 2 rfl ?_
                obtain ⟨σ11, h11, hf⟩ := sat_ca0 hf
                refine g_cVV (rest := []) B (ck_X6_findHolds C h11) mo_X6_findHolds wm_RX6_98 (by decide) (cM_o C) rfl rfl rfl (Nat.le_of_ble_eq_true rfl) dX6_of_117 ?_
                refine g_aload_n B dX6_of_120 rfl 0 rfl ?_
                refine m_get_holds C wf_RX6_28 dX6_of_121 ?_
                refine g_iload_n B dX6_of_124 rfl 2 rfl ?_
                obtain ⟨h12, hf⟩ := sat_chk hf
                refine m_iald C 6 (by decide) rfl h12 dX6_of_125 ?_
                have hf := sat_some hf
                exact g_iret B rfl rfl dX6_of_126 hf
              · have hf := sat_f hf c3_5
                refine g_tabOut (tgt := 127) B (by
                  have z0 := ne_toI c3_0 (z := 0) (by decide)
                  have z1 := ne_toI c3_1 (z := 1) (by decide)
                  have z2 := ne_toI c3_2 (z := 2) (by decide)
                  have z3 := ne_toI c3_3 (z := 3) (by decide)
                  have z4 := ne_toI c3_4 (z := 4) (by decide)
                  have z5 := ne_toI c3_5 (z := 5) (by decide)
                  omega) dX6_of_20 (by decide) ?_
                refine g_iconst (v := (-1)) B dX6_of_127 (by decide) ?_
                have hf := sat_some hf
                exact g_iret B rfl rfl dX6_of_128 hf
  · have hf := sat_t hf c2
    refine g_iconst (v := (-1)) B dX6_of_9 (by decide) ?_
    have hf := sat_some hf
    exact g_iret B rfl rfl dX6_of_10 hf
theorem c_X6_of (l : Launch) (D : va_G) (Ad : Nat → Nat) (cI : ClassId) {σ : Mm} {p1 : Int32} {p2 : Int32} {p3 : Int32} {τ : Mm} {r : Int32} (h : f_X6_of σ p1 p2 p3 = some (τ, r)) : CtI l D (tysM cI) (wdM Ad cI) StM yX6_of cX6_of 5 .int 4 σ [.ref (Ad 0), .int p1, .int p2, .int p3] (τ, r) := by
  refine metI (Ad := Ad) (cI := cI) (cP := cI) (cII := cI) (by decide) (Nat.le_of_ble_eq_true rfl) (wdG_ok _ _ _) stOK_M rfl (fun K C G hR => ?_)
  have e : kAd K = Ad := G.2.2.2.2.2.1
  have C2 := cM_of C G
  have h9 := w_X6_of C2 σ p1 p2 p3 ⟨_, h, by rw [hR]; exact ⟨rfl, rfl⟩⟩
  rw [e] at h9
  exact h9
theorem ck_X6_of {K : Kx} {cc : ByteArray} {own : String} {nL d : Nat} {rty : Option FieldType} (C : CxM K cc own nL d rty) {σ : Mm} {p1 : Int32} {p2 : Int32} {p3 : Int32} {τ : Mm} {r : Int32} (h : f_X6_of σ p1 p2 p3 = some (τ, r)) : CtI (kl K) (kD K) (ktys K) (kwf K) (kSt K) yX6_of cX6_of 5 .int 4 σ [.ref (kAd K 0), .int p1, .int p2, .int p3] (τ, r) := cM_eq C (P := fun l D tys wf St => CtI l D tys wf St yX6_of cX6_of 5 .int 4 σ [.ref (kAd K 0), .int p1, .int p2, .int p3] (τ, r)) (c_X6_of _ _ _ _ h)
def f_X6_hold (σ : Mm) (p1 : Int32) (p2 : Int32) (p3 : Int32) : Option (Mm × Int32) :=
  bn1 (f_X6_isNote σ p1 p2) (fun σ1 r1 => (if r1 = 0 then some (σ1, (-1)) else bn0 (f_X6_findHolds σ1 p1 p2) (fun σ3 => chk (inb p2 12) (bn1 (f_X6_in σ3 p3 0 ((σ3 7 p2.toNatClampNeg) - 1)) (fun σ5 r5 => (if r5 = 0 then some (σ5, (-3)) else chk (inb ((500 * p2) + p3) 6000) (some (σ5, (σ5 8 ((500 * p2) + p3).toNatClampNeg)))))))))
set_option maxHeartbeats 4000000 in
set_option maxRecDepth 100000 in
theorem w_X6_hold {K : Kx} (C : CxM K cX6_hold RX6 4 4 (some .int)) (σ : Mm) (p1 : Int32) (p2 : Int32) (p3 : Int32) (hf : Sat (f_X6_hold σ p1 p2 p3) (fun o => kRt K (some (.int o.2)) o.1)) : Gj K σ 0 [(0, .ref (kAd K 0)), (1, .int p1), (2, .int p2), (3, .int p3)] [] := by
  unfold f_X6_hold at hf
  have B := C.1
  refine g_aload_n B dX6_hold_0 rfl 0 rfl ?_
  refine g_iload_n B dX6_hold_1 rfl 1 rfl ?_
  refine g_iload_n B dX6_hold_2 rfl 2 rfl ?_
  obtain ⟨σ1, r1, h1, hf⟩ := sat_ca1 hf
  refine g_cVI (rest := []) B (ck_X6_isNote C h1) mo_X6_isNote wm_RX6_76 (by decide) (cM_o C) rfl rfl rfl (Nat.le_of_ble_eq_true rfl) dX6_hold_3 ?_
  refine g_if_ne (tgt := 11) B dX6_hold_6 (by decide) (fun c2 => ?_) (fun c2 => ?_)
  · have hf := sat_f hf c2
    refine g_aload_n B dX6_hold_11 rfl 0 rfl ?_
    refine g_iload_n B dX6_hold_12 rfl 1 rfl ?_
    refine g_iload_n B dX6_hold_13 rfl 2 rfl ?_
    obtain ⟨σ3, h3, hf⟩ := sat_ca0 hf
    refine g_cVV (rest := []) B (ck_X6_findHolds C h3) mo_X6_findHolds wm_RX6_98 (by decide) (cM_o C) rfl rfl rfl (Nat.le_of_ble_eq_true rfl) dX6_hold_14 ?_
    refine g_iload_n B dX6_hold_17 rfl 3 rfl ?_
    refine g_iconst (v := 0) B dX6_hold_18 (by decide) ?_
    refine g_aload_n B dX6_hold_19 rfl 0 rfl ?_
    refine m_get_holds C wf_RX6_28 dX6_hold_20 ?_
    refine g_iload_n B dX6_hold_23 rfl 2 rfl ?_
    obtain ⟨h4, hf⟩ := sat_chk hf
    refine m_iald C 6 (by decide) rfl h4 dX6_hold_24 ?_
    refine g_iconst (v := 1) B dX6_hold_25 (by decide) ?_
    refine g_isub B dX6_hold_26 ?_
    obtain ⟨σ5, r5, h5, hf⟩ := sat_ca1 hf
    refine g_cSI (rest := []) B (ck_X6_in C h5) mo_X6_in wm_RX6_61 (by decide) rfl rfl (Nat.le_of_ble_eq_true rfl) dX6_hold_27 ?_
    refine g_if_eq (tgt := 48) B dX6_hold_30 (by decide) (fun c6 => ?_) (fun c6 => ?_)
    · have hf := sat_t hf c6
      refine g_bipush (v := (-3)) B dX6_hold_48 (by decide) ?_
      have hf := sat_some hf
      exact g_iret B rfl rfl dX6_hold_50 hf
    · have hf := sat_f hf c6
      refine g_aload_n B dX6_hold_33 rfl 0 rfl ?_
      refine m_get_name C wf_RX6_31 dX6_hold_34 ?_
      refine g_sipush (v := 500) B dX6_hold_37 (by decide) ?_
      refine g_iload_n B dX6_hold_40 rfl 2 rfl ?_
      refine g_imul B dX6_hold_41 ?_
      refine g_iload_n B dX6_hold_42 rfl 3 rfl ?_
      refine g_iadd B dX6_hold_43 ?_
      obtain ⟨h7, hf⟩ := sat_chk hf
      refine m_iald C 7 (by decide) rfl h7 dX6_hold_44 ?_
      refine g_goto (tgt := 50) B dX6_hold_45 (by decide) ?_
      have hf := sat_some hf
      exact g_iret B rfl rfl dX6_hold_50 hf
  · have hf := sat_t hf c2
    refine g_iconst (v := (-1)) B dX6_hold_9 (by decide) ?_
    have hf := sat_some hf
    exact g_iret B rfl rfl dX6_hold_10 hf
theorem c_X6_hold (l : Launch) (D : va_G) (Ad : Nat → Nat) (cI : ClassId) {σ : Mm} {p1 : Int32} {p2 : Int32} {p3 : Int32} {τ : Mm} {r : Int32} (h : f_X6_hold σ p1 p2 p3 = some (τ, r)) : CtI l D (tysM cI) (wdM Ad cI) StM yX6_hold cX6_hold 4 .int 4 σ [.ref (Ad 0), .int p1, .int p2, .int p3] (τ, r) := by
  refine metI (Ad := Ad) (cI := cI) (cP := cI) (cII := cI) (by decide) (Nat.le_of_ble_eq_true rfl) (wdG_ok _ _ _) stOK_M rfl (fun K C G hR => ?_)
  have e : kAd K = Ad := G.2.2.2.2.2.1
  have C2 := cM_of C G
  have h9 := w_X6_hold C2 σ p1 p2 p3 ⟨_, h, by rw [hR]; exact ⟨rfl, rfl⟩⟩
  rw [e] at h9
  exact h9
theorem ck_X6_hold {K : Kx} {cc : ByteArray} {own : String} {nL d : Nat} {rty : Option FieldType} (C : CxM K cc own nL d rty) {σ : Mm} {p1 : Int32} {p2 : Int32} {p3 : Int32} {τ : Mm} {r : Int32} (h : f_X6_hold σ p1 p2 p3 = some (τ, r)) : CtI (kl K) (kD K) (ktys K) (kwf K) (kSt K) yX6_hold cX6_hold 4 .int 4 σ [.ref (kAd K 0), .int p1, .int p2, .int p3] (τ, r) := cM_eq C (P := fun l D tys wf St => CtI l D tys wf St yX6_hold cX6_hold 4 .int 4 σ [.ref (kAd K 0), .int p1, .int p2, .int p3] (τ, r)) (c_X6_hold _ _ _ _ h)
def f_X6_apart (σ : Mm) (p0 : Int32) (p1 : Int32) : Option (Mm × Int32) :=
  (if p1 ≤ p0 then some (σ, (p0 - p1)) else some (σ, (p1 - p0)))
set_option maxHeartbeats 4000000 in
set_option maxRecDepth 100000 in
theorem w_X6_apart {K : Kx} (C : CxM K cX6_apart RX6 2 0 (some .int)) (σ : Mm) (p0 : Int32) (p1 : Int32) (hf : Sat (f_X6_apart σ p0 p1) (fun o => kRt K (some (.int o.2)) o.1)) : Gj K σ 0 [(0, .int p0), (1, .int p1)] [] := by
  unfold f_X6_apart at hf
  have B := C.1
  refine g_iload_n B dX6_apart_0 rfl 0 rfl ?_
  refine g_iload_n B dX6_apart_1 rfl 1 rfl ?_
  refine g_icmp_ge (tgt := 11) B dX6_apart_2 (by decide) (fun c1 => ?_) (fun c1 => ?_)
  · have hf := sat_t hf c1
    refine g_iload_n B dX6_apart_11 rfl 0 rfl ?_
    refine g_iload_n B dX6_apart_12 rfl 1 rfl ?_
    refine g_isub B dX6_apart_13 ?_
    have hf := sat_some hf
    exact g_iret B rfl rfl dX6_apart_14 hf
  · have hf := sat_f hf c1
    refine g_iload_n B dX6_apart_5 rfl 1 rfl ?_
    refine g_iload_n B dX6_apart_6 rfl 0 rfl ?_
    refine g_isub B dX6_apart_7 ?_
    refine g_goto (tgt := 14) B dX6_apart_8 (by decide) ?_
    have hf := sat_some hf
    exact g_iret B rfl rfl dX6_apart_14 hf
theorem c_X6_apart (l : Launch) (D : va_G) (Ad : Nat → Nat) (cI : ClassId) {σ : Mm} {p0 : Int32} {p1 : Int32} {τ : Mm} {r : Int32} (h : f_X6_apart σ p0 p1 = some (τ, r)) : CtI l D (tysM cI) (wdM Ad cI) StM yX6_apart cX6_apart 2 .int 0 σ [.int p0, .int p1] (τ, r) := by
  refine metI (Ad := Ad) (cI := cI) (cP := cI) (cII := cI) (by decide) (Nat.le_of_ble_eq_true rfl) (wdG_ok _ _ _) stOK_M rfl (fun K C G hR => ?_)
  exact w_X6_apart (cM_of C G) σ p0 p1 ⟨_, h, by rw [hR]; exact ⟨rfl, rfl⟩⟩
theorem ck_X6_apart {K : Kx} {cc : ByteArray} {own : String} {nL d : Nat} {rty : Option FieldType} (C : CxM K cc own nL d rty) {σ : Mm} {p0 : Int32} {p1 : Int32} {τ : Mm} {r : Int32} (h : f_X6_apart σ p0 p1 = some (τ, r)) : CtI (kl K) (kD K) (ktys K) (kwf K) (kSt K) yX6_apart cX6_apart 2 .int 0 σ [.int p0, .int p1] (τ, r) := cM_eq C (P := fun l D tys wf St => CtI l D tys wf St yX6_apart cX6_apart 2 .int 0 σ [.int p0, .int p1] (τ, r)) (c_X6_apart _ _ _ _ h)
def f_X6_handOf (σ : Mm) (p0 : Int32) : Option (Mm × Int32) :=
  some (σ, ((p0 - p0 / 1000 * 1000) / 10))
set_option maxHeartbeats 4000000 in
set_option maxRecDepth 100000 in
theorem w_X6_handOf {K : Kx} (C : CxM K cX6_handOf RX6 1 0 (some .int)) (σ : Mm) (p0 : Int32) (hf : Sat (f_X6_handOf σ p0) (fun o => kRt K (some (.int o.2)) o.1)) : Gj K σ 0 [(0, .int p0)] [] := by
  unfold f_X6_handOf at hf
  have B := C.1
  refine g_iload_n B dX6_handOf_0 rfl 0 rfl ?_
  refine g_sipush (v := 1000) B dX6_handOf_1 (by decide) ?_
  refine g_irem B (by decide) dX6_handOf_4 ?_
  refine g_bipush (v := 10) B dX6_handOf_5 (by decide) ?_
  refine g_idiv B (by decide) dX6_handOf_7 ?_
  have hf := sat_some hf
  exact g_iret B rfl rfl dX6_handOf_8 hf
theorem c_X6_handOf (l : Launch) (D : va_G) (Ad : Nat → Nat) (cI : ClassId) {σ : Mm} {p0 : Int32} {τ : Mm} {r : Int32} (h : f_X6_handOf σ p0 = some (τ, r)) : CtI l D (tysM cI) (wdM Ad cI) StM yX6_handOf cX6_handOf 1 .int 0 σ [.int p0] (τ, r) := by
  refine metI (Ad := Ad) (cI := cI) (cP := cI) (cII := cI) (by decide) (Nat.le_of_ble_eq_true rfl) (wdG_ok _ _ _) stOK_M rfl (fun K C G hR => ?_)
  exact w_X6_handOf (cM_of C G) σ p0 ⟨_, h, by rw [hR]; exact ⟨rfl, rfl⟩⟩
theorem ck_X6_handOf {K : Kx} {cc : ByteArray} {own : String} {nL d : Nat} {rty : Option FieldType} (C : CxM K cc own nL d rty) {σ : Mm} {p0 : Int32} {τ : Mm} {r : Int32} (h : f_X6_handOf σ p0 = some (τ, r)) : CtI (kl K) (kD K) (ktys K) (kwf K) (kSt K) yX6_handOf cX6_handOf 1 .int 0 σ [.int p0] (τ, r) := cM_eq C (P := fun l D tys wf St => CtI l D tys wf St yX6_handOf cX6_handOf 1 .int 0 σ [.int p0] (τ, r)) (c_X6_handOf _ _ _ _ h)
def f_X6_is (σ : Mm) (p1 : Int32) (p2 : Int32) (p3 : Int32) : Option (Mm × Int32) :=
  chk (inb ((12 * p1) + p2) 36) (bn1 (f_X6_has σ (σ 6 ((12 * p1) + p2).toNatClampNeg) p3) (fun σ2 r2 => chk (r2 &&& 1 == r2) (some (σ2, r2))))
set_option maxHeartbeats 4000000 in
set_option maxRecDepth 100000 in
theorem w_X6_is {K : Kx} (C : CxM K cX6_is RX6 4 1 (some .boolean)) (σ : Mm) (p1 : Int32) (p2 : Int32) (p3 : Int32) (hf : Sat (f_X6_is σ p1 p2 p3) (fun o => kRt K (some (.int o.2)) o.1)) : Gj K σ 0 [(0, .ref (kAd K 0)), (1, .int p1), (2, .int p2), (3, .int p3)] [] := by
  unfold f_X6_is at hf
  have B := C.1
  refine g_aload_n B dX6_is_0 rfl 0 rfl ?_
  refine m_get_marks C wf_RX6_25 dX6_is_1 ?_
  refine g_bipush (v := 12) B dX6_is_4 (by decide) ?_
  refine g_iload_n B dX6_is_6 rfl 1 rfl ?_
  refine g_imul B dX6_is_7 ?_
  refine g_iload_n B dX6_is_8 rfl 2 rfl ?_
  refine g_iadd B dX6_is_9 ?_
  obtain ⟨h1, hf⟩ := sat_chk hf
  refine m_iald C 5 (by decide) rfl h1 dX6_is_10 ?_
  refine g_iload_n B dX6_is_11 rfl 3 rfl ?_
  obtain ⟨σ2, r2, h2, hf⟩ := sat_ca1 hf
  refine g_cSI (rest := []) B (ck_X6_has C h2) mo_X6_has wm_RX6_69 (by decide) rfl rfl (Nat.le_of_ble_eq_true rfl) dX6_is_12 ?_
  obtain ⟨h3, hf⟩ := sat_chk hf
  have hf := sat_some hf
  exact g_iret B rfl (narrow_b h3) dX6_is_15 hf
theorem c_X6_is (l : Launch) (D : va_G) (Ad : Nat → Nat) (cI : ClassId) {σ : Mm} {p1 : Int32} {p2 : Int32} {p3 : Int32} {τ : Mm} {r : Int32} (h : f_X6_is σ p1 p2 p3 = some (τ, r)) : CtI l D (tysM cI) (wdM Ad cI) StM yX6_is cX6_is 4 .boolean 1 σ [.ref (Ad 0), .int p1, .int p2, .int p3] (τ, r) := by
  refine metI (Ad := Ad) (cI := cI) (cP := cI) (cII := cI) (by decide) (Nat.le_of_ble_eq_true rfl) (wdG_ok _ _ _) stOK_M rfl (fun K C G hR => ?_)
  have e : kAd K = Ad := G.2.2.2.2.2.1
  have C2 := cM_of C G
  have h9 := w_X6_is C2 σ p1 p2 p3 ⟨_, h, by rw [hR]; exact ⟨rfl, rfl⟩⟩
  rw [e] at h9
  exact h9
theorem ck_X6_is {K : Kx} {cc : ByteArray} {own : String} {nL d : Nat} {rty : Option FieldType} (C : CxM K cc own nL d rty) {σ : Mm} {p1 : Int32} {p2 : Int32} {p3 : Int32} {τ : Mm} {r : Int32} (h : f_X6_is σ p1 p2 p3 = some (τ, r)) : CtI (kl K) (kD K) (ktys K) (kwf K) (kSt K) yX6_is cX6_is 4 .boolean 1 σ [.ref (kAd K 0), .int p1, .int p2, .int p3] (τ, r) := cM_eq C (P := fun l D tys wf St => CtI l D tys wf St yX6_is cX6_is 4 .boolean 1 σ [.ref (kAd K 0), .int p1, .int p2, .int p3] (τ, r)) (c_X6_is _ _ _ _ h)
