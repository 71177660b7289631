def f_X6_cut (σ : Mm) (p1 : Int32) : Option (Mm × Int32) :=
  bn1 (f_X6_isPart σ p1) (fun σ1 r1 => (if r1 = 0 then some (σ1, (-1)) else chk (inb p1 3) ((if (σ1 2 p1.toNatClampNeg) = 0 then some (σ1, (-3)) else chk (inb p1 3) (chk (inb p1 3) (nm (ms σ1 2 p1.toNatClampNeg ((σ1 2 p1.toNatClampNeg) - 1)) (fun σ6 => chk (inb p1 3) (some (σ6, (σ6 2 p1.toNatClampNeg))))))))))
set_option maxHeartbeats 4000000 in
set_option maxRecDepth 100000 in
theorem w_X6_cut {K : Kx} (C : CxM K cX6_cut RX6 2 2 (some .int)) (σ : Mm) (p1 : Int32) (hf : Sat (f_X6_cut σ p1) (fun o => kRt K (some (.int o.2)) o.1)) : Gj K σ 0 [(0, .ref (kAd K 0)), (1, .int p1)] [] := by
  unfold f_X6_cut at hf
  have B := C.1
  refine g_iload_n B dX6_cut_0 rfl 1 rfl ?_
  obtain ⟨σ1, r1, h1, hf⟩ := sat_ca1 hf
  refine g_cSI (rest := []) B (ck_X6_isPart C h1) mo_X6_isPart wm_RX6_65 (by decide) rfl rfl (Nat.le_of_ble_eq_true rfl) dX6_cut_1 ?_
  refine g_if_ne (tgt := 9) B dX6_cut_4 (by decide) (fun c2 => ?_) (fun c2 => ?_)
  · have hf := sat_f hf c2
    refine g_aload_n B dX6_cut_9 rfl 0 rfl ?_
    refine m_get_notes C wf_RX6_13 dX6_cut_10 ?_
    refine g_iload_n B dX6_cut_13 rfl 1 rfl ?_
    obtain ⟨h3, hf⟩ := sat_chk hf
    refine m_iald C 1 (by decide) rfl h3 dX6_cut_14 ?_
    refine g_if_ne (tgt := 21) B dX6_cut_15 (by decide) (fun c4 => ?_) (fun c4 => ?_)
    · have hf := sat_f hf c4
      refine g_aload_n B dX6_cut_21 rfl 0 rfl ?_
      refine m_get_notes C wf_RX6_13 dX6_cut_22 ?_
      refine g_iload_n B dX6_cut_25 rfl 1 rfl ?_
      refine g_dup2 B rfl rfl dX6_cut_26 ?_
      obtain ⟨h5, hf⟩ := sat_chk hf
      refine m_iald C 1 (by decide) rfl h5 dX6_cut_27 ?_
      refine g_iconst (v := 1) B dX6_cut_28 (by decide) ?_
      refine g_isub B dX6_cut_29 ?_
      obtain ⟨h6, hf⟩ := sat_chk hf
      obtain ⟨σ6, e6, hf⟩ := sat_nm hf
      refine m_iast C 1 (by decide) rfl h6 dX6_cut_30 (g_mem2 e6 ?_)
      refine g_aload_n B dX6_cut_31 rfl 0 rfl ?_
      refine m_get_notes C wf_RX6_13 dX6_cut_32 ?_
      refine g_iload_n B dX6_cut_35 rfl 1 rfl ?_
      obtain ⟨h7, hf⟩ := sat_chk hf
      refine m_iald C 1 (by decide) rfl h7 dX6_cut_36 ?_
      have hf := sat_some hf
      exact g_iret B rfl rfl dX6_cut_37 hf
    · have hf := sat_t hf c4
      refine g_bipush (v := (-3)) B dX6_cut_18 (by decide) ?_
      have hf := sat_some hf
      exact g_iret B rfl rfl dX6_cut_20 hf
  · have hf := sat_t hf c2
    refine g_iconst (v := (-1)) B dX6_cut_7 (by decide) ?_
    have hf := sat_some hf
    exact g_iret B rfl rfl dX6_cut_8 hf
theorem c_X6_cut (l : Launch) (D : va_G) (Ad : Nat → Nat) (cI : ClassId) {σ : Mm} {p1 : Int32} {τ : Mm} {r : Int32} (h : f_X6_cut σ p1 = some (τ, r)) : CtI l D (tysM cI) (wdM Ad cI) StM yX6_cut cX6_cut 2 .int 2 σ [.ref (Ad 0), .int p1] (τ, r) := by
  refine metI (Ad := Ad) (cI := cI) (cP := cI) (cII := cI) (by decide) (Nat.le_of_ble_eq_true rfl) (wdG_ok _ _ _) stOK_M rfl (fun K C G hR => ?_)
  have e : kAd K = Ad := G.2.2.2.2.2.1
  have C2 := cM_of C G
  have h9 := w_X6_cut C2 σ p1 ⟨_, h, by rw [hR]; exact ⟨rfl, rfl⟩⟩
  rw [e] at h9
  exact h9
theorem ck_X6_cut {K : Kx} {cc : ByteArray} {own : String} {nL d : Nat} {rty : Option FieldType} (C : CxM K cc own nL d rty) {σ : Mm} {p1 : Int32} {τ : Mm} {r : Int32} (h : f_X6_cut σ p1 = some (τ, r)) : CtI (kl K) (kD K) (ktys K) (kwf K) (kSt K) yX6_cut cX6_cut 2 .int 2 σ [.ref (kAd K 0), .int p1] (τ, r) := cM_eq C (P := fun l D tys wf St => CtI l D tys wf St yX6_cut cX6_cut 2 .int 2 σ [.ref (kAd K 0), .int p1] (τ, r)) (c_X6_cut _ _ _ _ h)
def f_X6_findOnes_s53 (v3_6 : Int32) (p3 : Int32) (σ : Mm) (p2 : Int32) (p1 : Int32) (σ7 : Mm) (v7_4 : Int32) (v7_7 : Int32) : Option ((Mm × Int32 × Int32) ⊕ (Mm × Int32)) :=
  (if 2 ≤ v7_7 then some (.inr (σ7, v7_4)) else bn1 ((if v3_6 = 4 then some (σ7, 5) else some (σ7, ((2 * v3_6) - 2))) : Option (Mm × Int32)) (fun σ10 w10_0 => bn1 (f_X6_in σ10 (((p3 - (σ 1 p2.toNatClampNeg)) - v7_7) - w10_0) 1 12) (fun σ11 r11 => (if r11 = 0 then some (.inl (σ11, v7_4, (v7_7 + 1))) else chk (inb ((9 * p1) + v7_4) 18) (nm (ms σ11 11 ((9 * p1) + v7_4).toNatClampNeg (((p3 - (σ 1 p2.toNatClampNeg)) - v7_7) - w10_0)) (fun σ13 => chk (inb ((9 * p1) + v7_4) 18) (nm (ms σ13 12 ((9 * p1) + v7_4).toNatClampNeg (v3_6 + (5 * v7_7))) (fun σ14 => some (.inl (σ14, (v7_4 + 1), (v7_7 + 1)))))))))))
def f_X6_findOnes_s44 (p3 : Int32) (σ : Mm) (p2 : Int32) (p1 : Int32) (σ3 : Mm) (v3_4 : Int32) (v3_6 : Int32) : Option ((Mm × Int32 × Int32) ⊕ (Mm × Int32)) :=
  (if 4 < v3_6 then some (.inr (σ3, v3_4)) else bn1 (lq2 (f_X6_findOnes_s53 v3_6 p3 σ p2 p1) fu σ3 v3_4 0) (fun σ8 v8_4 => some (.inl (σ8, v8_4, (v3_6 + 1)))))
def f_X6_findOnes (σ : Mm) (p1 : Int32) (p2 : Int32) (p3 : Int32) : Option (Mm) :=
  chk (inb p2 4) (bn1 ((if (p3 - (σ 1 p2.toNatClampNeg)) = 0 then chk (inb (9 * p1) 18) (nm (ms σ 11 (9 * p1).toNatClampNeg 0) (fun σ15 => chk (inb (9 * p1) 18) (nm (ms σ15 12 (9 * p1).toNatClampNeg 0) (fun σ16 => some (σ16, 1))))) else some (σ, 0)) : Option (Mm × Int32)) (fun σ2 v2_4 => bn1 (lq2 (f_X6_findOnes_s44 p3 σ p2 p1) fu σ2 v2_4 1) (fun σ4 v4_4 => chk (inb p1 2) (nm (ms σ4 13 p1.toNatClampNeg v4_4) (fun σ5 => some σ5)))))
set_option maxHeartbeats 4000000 in
set_option maxRecDepth 100000 in
theorem w_X6_findOnes {K : Kx} (C : CxM K cX6_findOnes RX6 9 1 none) (σ : Mm) (p1 : Int32) (p2 : Int32) (p3 : Int32) (hf : Sat (f_X6_findOnes σ p1 p2 p3) (fun o => kRt K none o)) : Gj K σ 0 [(0, .ref (kAd K 0)), (1, .int p1), (2, .int p2), (3, .int p3)] [] := by
  unfold f_X6_findOnes at hf
  have B := C.1
  refine g_iconst (v := 0) B dX6_findOnes_0 (by decide) ?_
  refine g_istore B [(0, .ref (kAd K 0)), (1, .int p1), (2, .int p2), (3, .int p3), (4, .int 0)] dX6_findOnes_1 (by decide) [1, 2, 3, 4, 0] rfl ?_
  refine g_iload_n B dX6_findOnes_3 rfl 3 rfl ?_
  refine g_aload_n B dX6_findOnes_4 rfl 0 rfl ?_
  refine m_get_open C wf_RX6_7 dX6_findOnes_5 ?_
  refine g_iload_n B dX6_findOnes_8 rfl 2 rfl ?_
  obtain ⟨h1, hf⟩ := sat_chk hf
  refine m_iald C 0 (by decide) rfl h1 dX6_findOnes_9 ?_
  refine g_isub B dX6_findOnes_10 ?_
  refine g_istore B [(0, .ref (kAd K 0)), (1, .int p1), (2, .int p2), (3, .int p3), (4, .int 0), (5, .int ((p3 - (σ 1 p2.toNatClampNeg))))] dX6_findOnes_11 (by decide) [1, 2, 3, 4, 5, 0] rfl ?_
  refine g_iload B dX6_findOnes_13 5 rfl ?_
  have hf := sat_cu1 (G := fun σ2 v2_4 => Gj K σ2 41 [(0, .ref (kAd K 0)), (1, .int p1), (4, .int v2_4), (5, .int ((p3 - (σ 1 p2.toNatClampNeg))))] []) hf (by
    intro σ2 v2_4 hf
    refine g_iconst (v := 1) B dX6_findOnes_41 (by decide) ?_
    refine g_istore B [(0, .ref (kAd K 0)), (1, .int p1), (4, .int v2_4), (5, .int ((p3 - (σ 1 p2.toNatClampNeg)))), (6, .int 1)] dX6_findOnes_42 (by decide) [1, 2, 3, 4, 0] rfl ?_
    have hf := sat_cu1 (G := fun σ4 v4_4 => Gj K σ4 142 [(0, .ref (kAd K 0)), (1, .int p1), (4, .int v4_4)] []) hf (by
      intro σ4 v4_4 hf
      refine g_aload_n B dX6_findOnes_142 rfl 0 rfl ?_
      refine m_get_ones C wf_RX6_46 dX6_findOnes_143 ?_
      refine g_iload_n B dX6_findOnes_146 rfl 1 rfl ?_
      refine g_iload B dX6_findOnes_147 2 rfl ?_
      obtain ⟨h5, hf⟩ := sat_chk hf
      obtain ⟨σ5, e5, hf⟩ := sat_nm hf
      refine m_iast C 12 (by decide) rfl h5 dX6_findOnes_149 (g_mem2 e5 ?_)
      have hf := sat_some hf
      exact g_vret B rfl dX6_findOnes_150 hf)
    refine lqr2 (Gh := fun σ3 v3_4 v3_6 => Gj K σ3 44 [(0, .ref (kAd K 0)), (1, .int p1), (4, .int v3_4), (5, .int ((p3 - (σ 1 p2.toNatClampNeg)))), (6, .int v3_6)] []) ?_ fu σ2 v2_4 1 hf
    intro σ3 v3_4 v3_6 hf
    unfold f_X6_findOnes_s44 at hf
    refine g_iload B dX6_findOnes_44 4 rfl ?_
    refine g_iconst (v := 4) B dX6_findOnes_46 (by decide) ?_
    refine g_icmp_gt (tgt := 142) B dX6_findOnes_47 (by decide) (fun c6 => ?_) (fun c6 => ?_)
    · have hf := sat_t hf c6
      have hf := sum_r (sat_some hf)
      exact g_sub hf [0, 1, 2] rfl
    · have hf := sat_f hf c6
      refine g_iconst (v := 0) B dX6_findOnes_50 (by decide) ?_
      refine g_istore B [(0, .ref (kAd K 0)), (1, .int p1), (4, .int v3_4), (5, .int ((p3 - (σ 1 p2.toNatClampNeg)))), (6, .int v3_6), (7, .int 0)] dX6_findOnes_51 (by decide) [1, 2, 3, 4, 5, 0] rfl ?_
      have hf := sat_cu1 (G := fun σ8 v8_4 => Gj K σ8 136 [(0, .ref (kAd K 0)), (1, .int p1), (4, .int v8_4), (5, .int ((p3 - (σ 1 p2.toNatClampNeg)))), (6, .int v3_6)] []) hf (by
        intro σ8 v8_4 hf
        refine g_iinc B (v3_6 + 1) [(0, .ref (kAd K 0)), (1, .int p1), (4, .int v8_4), (5, .int ((p3 - (σ 1 p2.toNatClampNeg)))), (6, .int ((v3_6 + 1)))] dX6_findOnes_136 4 rfl rfl (by decide) [1, 2, 3, 4, 0] rfl ?_
        refine g_goto (tgt := 44) B dX6_findOnes_139 (by decide) ?_
        have hf := sum_l (sat_some hf)
        exact g_sub hf [0, 1, 2, 3, 4] rfl)
      refine lqr2 (Gh := fun σ7 v7_4 v7_7 => Gj K σ7 53 [(0, .ref (kAd K 0)), (1, .int p1), (4, .int v7_4), (5, .int ((p3 - (σ 1 p2.toNatClampNeg)))), (6, .int v3_6), (7, .int v7_7)] []) ?_ fu σ3 v3_4 0 hf
      intro σ7 v7_4 v7_7 hf
      unfold f_X6_findOnes_s53 at hf
      refine g_iload B dX6_findOnes_53 5 rfl ?_
      refine g_iconst (v := 2) B dX6_findOnes_55 (by decide) ?_
      refine g_icmp_ge (tgt := 136) B dX6_findOnes_56 (by decide) (fun c9 => ?_) (fun c9 => ?_)
      · have hf := sat_t hf c9
        have hf := sum_r (sat_some hf)
        exact g_sub hf [0, 1, 2, 3, 4] rfl
      · have hf := sat_f hf c9
        refine g_iload B dX6_findOnes_59 3 rfl ?_
        refine g_iload B dX6_findOnes_61 5 rfl ?_
        refine g_isub B dX6_findOnes_63 ?_
        refine g_iload B dX6_findOnes_64 4 rfl ?_
        refine g_iconst (v := 4) B dX6_findOnes_66 (by decide) ?_
        have hf := sat_cu1 (G := fun σ10 w10_0 => Gj K σ10 80 [(0, .ref (kAd K 0)), (1, .int p1), (4, .int v7_4), (5, .int ((p3 - (σ 1 p2.toNatClampNeg)))), (6, .int v3_6), (7, .int v7_7)] [.int w10_0, .int (((p3 - (σ 1 p2.toNatClampNeg)) - v7_7))]) hf (by
          intro σ10 w10_0 hf
          refine g_isub B dX6_findOnes_80 ?_
          refine g_istore B [(0, .ref (kAd K 0)), (1, .int p1), (4, .int v7_4), (5, .int ((p3 - (σ 1 p2.toNatClampNeg)))), (6, .int v3_6), (7, .int v7_7), (8, .int ((((p3 - (σ 1 p2.toNatClampNeg)) - v7_7) - w10_0)))] dX6_findOnes_81 (by decide) [1, 2, 3, 4, 5, 6, 0] rfl ?_
          refine g_iload B dX6_findOnes_83 6 rfl ?_
          refine g_iconst (v := 1) B dX6_findOnes_85 (by decide) ?_
          refine g_bipush (v := 12) B dX6_findOnes_86 (by decide) ?_
          obtain ⟨σ11, r11, h11, hf⟩ := sat_ca1 hf
          refine g_cSI (rest := []) B (ck_X6_in C h11) mo_X6_in wm_RX6_61 (by decide) rfl rfl (Nat.le_of_ble_eq_true rfl) dX6_findOnes_88 ?_
          refine g_if_eq (tgt := 130) B dX6_findOnes_91 (by decide) (fun c12 => ?_) (fun c12 => ?_)
          · have hf := sat_t hf c12
            refine g_iinc B (v7_7 + 1) [(0, .ref (kAd K 0)), (1, .int p1), (4, .int v7_4), (5, .int ((p3 - (σ 1 p2.toNatClampNeg)))), (6, .int v3_6), (7, .int ((v7_7 + 1))), (8, .int ((((p3 - (σ 1 p2.toNatClampNeg)) - v7_7) - w10_0)))] dX6_findOnes_130 5 rfl rfl (by decide) [1, 2, 3, 4, 5, 0, 6] rfl ?_
            refine g_goto (tgt := 53) B dX6_findOnes_133 (by decide) ?_
            have hf := sum_l (sat_some hf)
            exact g_sub hf [0, 1, 2, 3, 4, 5] rfl
          · have hf := sat_f hf c12
            refine g_aload_n B dX6_findOnes_94 rfl 0 rfl ?_
            refine m_get_oneHand C wf_RX6_40 dX6_findOnes_95 ?_
            refine g_bipush (v := 9) B dX6_findOnes_98 (by decide) ?_
            refine g_iload_n B dX6_findOnes_100 rfl 1 rfl ?_
            refine g_imul B dX6_findOnes_101 ?_
            refine g_iload B dX6_findOnes_102 2 rfl ?_
            refine g_iadd B dX6_findOnes_104 ?_
            refine g_iload B dX6_findOnes_105 6 rfl ?_
            obtain ⟨h13, hf⟩ := sat_chk hf
            obtain ⟨σ13, e13, hf⟩ := sat_nm hf
            refine m_iast C 10 (by decide) rfl h13 dX6_findOnes_107 (g_mem2 e13 ?_)
            refine g_aload_n B dX6_findOnes_108 rfl 0 rfl ?_
            refine m_get_oneLast C wf_RX6_43 dX6_findOnes_109 ?_
            refine g_bipush (v := 9) B dX6_findOnes_112 (by decide) ?_
            refine g_iload_n B dX6_findOnes_114 rfl 1 rfl ?_
            refine g_imul B dX6_findOnes_115 ?_
            refine g_iload B dX6_findOnes_116 2 rfl ?_
            refine g_iadd B dX6_findOnes_118 ?_
            refine g_iload B dX6_findOnes_119 4 rfl ?_
            refine g_iconst (v := 5) B dX6_findOnes_121 (by decide) ?_
            refine g_iload B dX6_findOnes_122 5 rfl ?_
            refine g_imul B dX6_findOnes_124 ?_
            refine g_iadd B dX6_findOnes_125 ?_
            obtain ⟨h14, hf⟩ := sat_chk hf
            obtain ⟨σ14, e14, hf⟩ := sat_nm hf
            refine m_iast C 11 (by decide) rfl h14 dX6_findOnes_126 (g_mem2 e14 ?_)
            refine g_iinc B (v7_4 + 1) [(0, .ref (kAd K 0)), (1, .int p1), (4, .int ((v7_4 + 1))), (5, .int ((p3 - (σ 1 p2.toNatClampNeg)))), (6, .int v3_6), (7, .int v7_7), (8, .int ((((p3 - (σ 1 p2.toNatClampNeg)) - v7_7) - w10_0)))] dX6_findOnes_127 2 rfl rfl (by decide) [1, 2, 0, 3, 4, 5, 6] rfl ?_
            refine g_iinc B (v7_7 + 1) [(0, .ref (kAd K 0)), (1, .int p1), (4, .int ((v7_4 + 1))), (5, .int ((p3 - (σ 1 p2.toNatClampNeg)))), (6, .int v3_6), (7, .int ((v7_7 + 1))), (8, .int ((((p3 - (σ 1 p2.toNatClampNeg)) - v7_7) - w10_0)))] dX6_findOnes_130 5 rfl rfl (by decide) [1, 2, 3, 4, 5, 0, 6] rfl ?_
            refine g_goto (tgt := 53) B dX6_findOnes_133 (by decide) ?_
            have hf := sum_l (sat_some hf)
            exact g_sub hf [0, 1, 2, 3, 4, 5] rfl)
        refine g_icmp_ne (tgt := 74) B dX6_findOnes_67 (by decide) (fun c10 => ?_) (fun c10 => ?_)
        · have hf := sat_f hf c10
          refine g_iconst (v := 2) B dX6_findOnes_74 (by decide) ?_
          refine g_iload B dX6_findOnes_75 4 rfl ?_
          refine g_imul B dX6_findOnes_77 ?_
          refine g_iconst (v := 2) B dX6_findOnes_78 (by decide) ?_
          refine g_isub B dX6_findOnes_79 ?_
          have hf := sat_some hf
          exact g_sub hf [0, 1, 2, 3, 4, 5] rfl
        · have hf := sat_t hf c10
          refine g_iconst (v := 5) B dX6_findOnes_70 (by decide) ?_
          refine g_goto (tgt := 80) B dX6_findOnes_71 (by decide) ?_
          have hf := sat_some hf
          exact g_sub hf [0, 1, 2, 3, 4, 5] rfl)
  refine g_if_ne (tgt := 41) B dX6_findOnes_15 (by decide) (fun c2 => ?_) (fun c2 => ?_)
  · have hf := sat_f hf c2
    have hf := sat_some hf
    exact g_sub hf [0, 1, 4, 5] rfl
  · have hf := sat_t hf c2
    refine g_aload_n B dX6_findOnes_18 rfl 0 rfl ?_
    refine m_get_oneHand C wf_RX6_40 dX6_findOnes_19 ?_
    refine g_bipush (v := 9) B dX6_findOnes_22 (by decide) ?_
    refine g_iload_n B dX6_findOnes_24 rfl 1 rfl ?_
    refine g_imul B dX6_findOnes_25 ?_
    refine g_iconst (v := 0) B dX6_findOnes_26 (by decide) ?_
    obtain ⟨h15, hf⟩ := sat_chk hf
    obtain ⟨σ15, e15, hf⟩ := sat_nm hf
    refine m_iast C 10 (by decide) rfl h15 dX6_findOnes_27 (g_mem2 e15 ?_)
    refine g_aload_n B dX6_findOnes_28 rfl 0 rfl ?_
    refine m_get_oneLast C wf_RX6_43 dX6_findOnes_29 ?_
    refine g_bipush (v := 9) B dX6_findOnes_32 (by decide) ?_
    refine g_iload_n B dX6_findOnes_34 rfl 1 rfl ?_
    refine g_imul B dX6_findOnes_35 ?_
    refine g_iconst (v := 0) B dX6_findOnes_36 (by decide) ?_
    obtain ⟨h16, hf⟩ := sat_chk hf
    obtain ⟨σ16, e16, hf⟩ := sat_nm hf
    refine m_iast C 11 (by decide) rfl h16 dX6_findOnes_37 (g_mem2 e16 ?_)
    refine g_iconst (v := 1) B dX6_findOnes_38 (by decide) ?_
    refine g_istore B [(0, .ref (kAd K 0)), (1, .int p1), (2, .int p2), (3, .int p3), (4, .int 1), (5, .int ((p3 - (σ 1 p2.toNatClampNeg))))] dX6_findOnes_39 (by decide) [1, 2, 3, 4, 0, 5] rfl ?_
    have hf := sat_some hf
    exact g_sub hf [0, 1, 4, 5] rfl
theorem c_X6_findOnes (l : Launch) (D : va_G) (Ad : Nat → Nat) (cI : ClassId) {σ : Mm} {p1 : Int32} {p2 : Int32} {p3 : Int32} {τ : Mm} (h : f_X6_findOnes σ p1 p2 p3 = some τ) : CtV l D (tysM cI) (wdM Ad cI) StM yX6_findOnes cX6_findOnes 9 1 σ [.ref (Ad 0), .int p1, .int p2, .int p3] τ := by
  refine metV (Ad := Ad) (cI := cI) (cP := cI) (cII := cI) (by decide) (Nat.le_of_ble_eq_true rfl) (wdG_ok _ _ _) stOK_M rfl (fun K C G hR => ?_)
  have e : kAd K = Ad := G.2.2.2.2.2.1
  have C2 := cM_of C G
  have h9 := w_X6_findOnes C2 σ p1 p2 p3 ⟨_, h, by rw [hR]; exact ⟨rfl, rfl⟩⟩
  rw [e] at h9
  exact h9
theorem ck_X6_findOnes {K : Kx} {cc : ByteArray} {own : String} {nL d : Nat} {rty : Option FieldType} (C : CxM K cc own nL d rty) {σ : Mm} {p1 : Int32} {p2 : Int32} {p3 : Int32} {τ : Mm} (h : f_X6_findOnes σ p1 p2 p3 = some τ) : CtV (kl K) (kD K) (ktys K) (kwf K) (kSt K) yX6_findOnes cX6_findOnes 9 1 σ [.ref (kAd K 0), .int p1, .int p2, .int p3] τ := cM_eq C (P := fun l D tys wf St => CtV l D tys wf St yX6_findOnes cX6_findOnes 9 1 σ [.ref (kAd K 0), .int p1, .int p2, .int p3] τ) (c_X6_findOnes _ _ _ _ h)
def f_X6_highs (σ : Mm) (p0 : Int32) : Option (Mm × Int32) :=
  (if p0 ≤ 4 then some (σ, 0) else some (σ, 1))
set_option maxHeartbeats 4000000 in
set_option maxRecDepth 100000 in
theorem w_X6_highs {K : Kx} (C : CxM K cX6_highs RX6 1 0 (some .int)) (σ : Mm) (p0 : Int32) (hf : Sat (f_X6_highs σ p0) (fun o => kRt K (some (.int o.2)) o.1)) : Gj K σ 0 [(0, .int p0)] [] := by
  unfold f_X6_highs at hf
  have B := C.1
  refine g_iload_n B dX6_highs_0 rfl 0 rfl ?_
  refine g_iconst (v := 4) B dX6_highs_1 (by decide) ?_
  refine g_icmp_le (tgt := 9) B dX6_highs_2 (by decide) (fun c1 => ?_) (fun c1 => ?_)
  · have hf := sat_t hf c1
    refine g_iconst (v := 0) B dX6_highs_9 (by decide) ?_
    have hf := sat_some hf
    exact g_iret B rfl rfl dX6_highs_10 hf
  · have hf := sat_f hf c1
    refine g_iconst (v := 1) B dX6_highs_5 (by decide) ?_
    refine g_goto (tgt := 10) B dX6_highs_6 (by decide) ?_
    have hf := sat_some hf
    exact g_iret B rfl rfl dX6_highs_10 hf
theorem c_X6_highs (l : Launch) (D : va_G) (Ad : Nat → Nat) (cI : ClassId) {σ : Mm} {p0 : Int32} {τ : Mm} {r : Int32} (h : f_X6_highs σ p0 = some (τ, r)) : CtI l D (tysM cI) (wdM Ad cI) StM yX6_highs cX6_highs 1 .int 0 σ [.int p0] (τ, r) := by
  refine metI (Ad := Ad) (cI := cI) (cP := cI) (cII := cI) (by decide) (Nat.le_of_ble_eq_true rfl) (wdG_ok _ _ _) stOK_M rfl (fun K C G hR => ?_)
  exact w_X6_highs (cM_of C G) σ p0 ⟨_, h, by rw [hR]; exact ⟨rfl, rfl⟩⟩
theorem ck_X6_highs {K : Kx} {cc : ByteArray} {own : String} {nL d : Nat} {rty : Option FieldType} (C : CxM K cc own nL d rty) {σ : Mm} {p0 : Int32} {τ : Mm} {r : Int32} (h : f_X6_highs σ p0 = some (τ, r)) : CtI (kl K) (kD K) (ktys K) (kwf K) (kSt K) yX6_highs cX6_highs 1 .int 0 σ [.int p0] (τ, r) := cM_eq C (P := fun l D tys wf St => CtI l D tys wf St yX6_highs cX6_highs 1 .int 0 σ [.int p0] (τ, r)) (c_X6_highs _ _ _ _ h)
def f_X6_keep_t63 (v2_5 : Int32) (σ12 : Mm) : Option ((Mm × Int32) ⊕ (Mm × Int32)) :=
  chk (inb (v2_5 - 1) 6000) (chk (inb v2_5 6000) (nm (ms σ12 8 v2_5.toNatClampNeg (σ12 8 (v2_5 - 1).toNatClampNeg)) (fun σ14 => chk (inb (v2_5 - 1) 6000) (chk (inb v2_5 6000) (nm (ms σ14 9 v2_5.toNatClampNeg (σ14 9 (v2_5 - 1).toNatClampNeg)) (fun σ16 => chk (inb (v2_5 - 1) 6000) (chk (inb v2_5 6000) (nm (ms σ16 10 v2_5.toNatClampNeg (σ16 10 (v2_5 - 1).toNatClampNeg)) (fun σ18 => some (.inl (σ18, (v2_5 + (-1)))))))))))))
def f_X6_keep_s14 (p1 : Int32) (p2 : Int32) (p3 : Int32) (σ2 : Mm) (v2_5 : Int32) : Option ((Mm × Int32) ⊕ (Mm × Int32)) :=
  (if v2_5 ≤ (500 * p1) then some (.inr (σ2, v2_5)) else chk (inb (v2_5 - 1) 6000) ((if p2 < (σ2 8 (v2_5 - 1).toNatClampNeg) then (f_X6_keep_t63 v2_5 σ2) else chk (inb (v2_5 - 1) 6000) ((if (σ2 8 (v2_5 - 1).toNatClampNeg) = p2 then chk (inb (v2_5 - 1) 6000) ((if (σ2 9 (v2_5 - 1).toNatClampNeg) ≤ p3 then some (.inr (σ2, v2_5)) else (f_X6_keep_t63 v2_5 σ2))) else some (.inr (σ2, v2_5)))))))
def f_X6_keep (σ : Mm) (p1 : Int32) (p2 : Int32) (p3 : Int32) (p4 : Int32) : Option (Mm) :=
  chk (inb p1 12) (bn1 (lq1 (f_X6_keep_s14 p1 p2 p3) fu σ ((500 * p1) + (σ 7 p1.toNatClampNeg))) (fun σ3 v3_5 => chk (inb v3_5 6000) (nm (ms σ3 8 v3_5.toNatClampNeg p2) (fun σ4 => chk (inb v3_5 6000) (nm (ms σ4 9 v3_5.toNatClampNeg p3) (fun σ5 => chk (inb v3_5 6000) (nm (ms σ5 10 v3_5.toNatClampNeg p4) (fun σ6 => chk (inb p1 12) (chk (inb p1 12) (nm (ms σ6 7 p1.toNatClampNeg ((σ6 7 p1.toNatClampNeg) + 1)) (fun σ8 => some σ8)))))))))))
set_option maxHeartbeats 4000000 in
set_option maxRecDepth 100000 in
theorem w_X6_keep {K : Kx} (C : CxM K cX6_keep RX6 6 0 none) (σ : Mm) (p1 : Int32) (p2 : Int32) (p3 : Int32) (p4 : Int32) (hf : Sat (f_X6_keep σ p1 p2 p3 p4) (fun o => kRt K none o)) : Gj K σ 0 [(0, .ref (kAd K 0)), (1, .int p1), (2, .int p2), (3, .int p3), (4, .int p4)] [] := by
  unfold f_X6_keep at hf
  have B := C.1
  refine g_sipush (v := 500) B dX6_keep_0 (by decide) ?_
  refine g_iload_n B dX6_keep_3 rfl 1 rfl ?_
  refine g_imul B dX6_keep_4 ?_
  refine g_aload_n B dX6_keep_5 rfl 0 rfl ?_
  refine m_get_holds C wf_RX6_28 dX6_keep_6 ?_
  refine g_iload_n B dX6_keep_9 rfl 1 rfl ?_
  obtain ⟨h1, hf⟩ := sat_chk hf
  refine m_iald C 6 (by decide) rfl h1 dX6_keep_10 ?_
  refine g_iadd B dX6_keep_11 ?_
  refine g_istore B [(0, .ref (kAd K 0)), (1, .int p1), (2, .int p2), (3, .int p3), (4, .int p4), (5, .int (((500 * p1) + (σ 7 p1.toNatClampNeg))))] dX6_keep_12 (by decide) [1, 2, 3, 4, 5, 0] rfl ?_
  have hf := sat_cu1 (G := fun σ3 v3_5 => Gj K σ3 117 [(0, .ref (kAd K 0)), (1, .int p1), (2, .int p2), (3, .int p3), (4, .int p4), (5, .int v3_5)] []) hf (by
    intro σ3 v3_5 hf
    refine g_aload_n B dX6_keep_117 rfl 0 rfl ?_
    refine m_get_name C wf_RX6_31 dX6_keep_118 ?_
    refine g_iload B dX6_keep_121 5 rfl ?_
    refine g_iload_n B dX6_keep_123 rfl 2 rfl ?_
    obtain ⟨h4, hf⟩ := sat_chk hf
    obtain ⟨σ4, e4, hf⟩ := sat_nm hf
    refine m_iast C 7 (by decide) rfl h4 dX6_keep_124 (g_mem2 e4 ?_)
    refine g_aload_n B dX6_keep_125 rfl 0 rfl ?_
    refine m_get_greater C wf_RX6_34 dX6_keep_126 ?_
    refine g_iload B dX6_keep_129 5 rfl ?_
    refine g_iload_n B dX6_keep_131 rfl 3 rfl ?_
    obtain ⟨h5, hf⟩ := sat_chk hf
    obtain ⟨σ5, e5, hf⟩ := sat_nm hf
    refine m_iast C 8 (by decide) rfl h5 dX6_keep_132 (g_mem2 e5 ?_)
    refine g_aload_n B dX6_keep_133 rfl 0 rfl ?_
    refine m_get_extra C wf_RX6_37 dX6_keep_134 ?_
    refine g_iload B dX6_keep_137 5 rfl ?_
    refine g_iload B dX6_keep_139 4 rfl ?_
    obtain ⟨h6, hf⟩ := sat_chk hf
    obtain ⟨σ6, e6, hf⟩ := sat_nm hf
    refine m_iast C 9 (by decide) rfl h6 dX6_keep_141 (g_mem2 e6 ?_)
    refine g_aload_n B dX6_keep_142 rfl 0 rfl ?_
    refine m_get_holds C wf_RX6_28 dX6_keep_143 ?_
    refine g_iload_n B dX6_keep_146 rfl 1 rfl ?_
    refine g_dup2 B rfl rfl dX6_keep_147 ?_
    obtain ⟨h7, hf⟩ := sat_chk hf
    refine m_iald C 6 (by decide) rfl h7 dX6_keep_148 ?_
    refine g_iconst (v := 1) B dX6_keep_149 (by decide) ?_
    refine g_iadd B dX6_keep_150 ?_
    obtain ⟨h8, hf⟩ := sat_chk hf
    obtain ⟨σ8, e8, hf⟩ := sat_nm hf
    refine m_iast C 6 (by decide) rfl h8 dX6_keep_151 (g_mem2 e8 ?_)
    have hf := sat_some hf
    exact g_vret B rfl dX6_keep_152 hf)
  refine lqr1 (Gh := fun σ2 v2_5 => Gj K σ2 14 [(0, .ref (kAd K 0)), (1, .int p1), (2, .int p2), (3, .int p3), (4, .int p4), (5, .int v2_5)] []) ?_ fu σ ((500 * p1) + (σ 7 p1.toNatClampNeg)) hf
  intro σ2 v2_5 hf
  unfold f_X6_keep_s14 at hf
  refine g_iload B dX6_keep_14 5 rfl ?_
  refine g_sipush (v := 500) B dX6_keep_16 (by decide) ?_
  refine g_iload_n B dX6_keep_19 rfl 1 rfl ?_
  refine g_imul B dX6_keep_20 ?_
  refine g_icmp_le (tgt := 117) B dX6_keep_21 (by decide) (fun c9 => ?_) (fun c9 => ?_)
  · have hf := sat_t hf c9
    have hf := sum_r (sat_some hf)
    exact g_sub hf [0, 1, 2, 3, 4, 5] rfl
  · have hf := sat_f hf c9
    refine g_aload_n B dX6_keep_24 rfl 0 rfl ?_
    refine m_get_name C wf_RX6_31 dX6_keep_25 ?_
    refine g_iload B dX6_keep_28 5 rfl ?_
    refine g_iconst (v := 1) B dX6_keep_30 (by decide) ?_
    refine g_isub B dX6_keep_31 ?_
    obtain ⟨h10, hf⟩ := sat_chk hf
    refine m_iald C 7 (by decide) rfl h10 dX6_keep_32 ?_
    refine g_iload_n B dX6_keep_33 rfl 2 rfl ?_
    refine sat_P hf (fun P12 eP12 hf => ?_)
    have hk12 : ∀ (σ12 : Mm), Sat (f_X6_keep_t63 v2_5 σ12) P12 → Gj K σ12 63 [(0, .ref (kAd K 0)), (1, .int p1), (2, .int p2), (3, .int p3), (4, .int p4), (5, .int v2_5)] [] := by
      intro σ12 hf
      rw [eP12] at hf
      unfold f_X6_keep_t63 at hf
      refine g_aload_n B dX6_keep_63 rfl 0 rfl ?_
      refine m_get_name C wf_RX6_31 dX6_keep_64 ?_
      refine g_iload B dX6_keep_67 5 rfl ?_
      refine g_aload_n B dX6_keep_69 rfl 0 rfl ?_
      refine m_get_name C wf_RX6_31 dX6_keep_70 ?_
      refine g_iload B dX6_keep_73 5 rfl ?_
      refine g_iconst (v := 1) B dX6_keep_75 (by decide) ?_
      refine g_isub B dX6_keep_76 ?_
      obtain ⟨h13, hf⟩ := sat_chk hf
      refine m_iald C 7 (by decide) rfl h13 dX6_keep_77 ?_
      obtain ⟨h14, hf⟩ := sat_chk hf
      obtain ⟨σ14, e14, hf⟩ := sat_nm hf
      refine m_iast C 7 (by decide) rfl h14 dX6_keep_78 (g_mem2 e14 ?_)
      refine g_aload_n B dX6_keep_79 rfl 0 rfl ?_
      refine m_get_greater C wf_RX6_34 dX6_keep_80 ?_
      refine g_iload B dX6_keep_83 5 rfl ?_
      refine g_aload_n B dX6_keep_85 rfl 0 rfl ?_
      refine m_get_greater C wf_RX6_34 dX6_keep_86 ?_
      refine g_iload B dX6_keep_89 5 rfl ?_
      refine g_iconst (v := 1) B dX6_keep_91 (by decide) ?_
      refine g_isub B dX6_keep_92 ?_
      obtain ⟨h15, hf⟩ := sat_chk hf
      refine m_iald C 8 (by decide) rfl h15 dX6_keep_93 ?_
      obtain ⟨h16, hf⟩ := sat_chk hf
      obtain ⟨σ16, e16, hf⟩ := sat_nm hf
      refine m_iast C 8 (by decide) rfl h16 dX6_keep_94 (g_mem2 e16 ?_)
      refine g_aload_n B dX6_keep_95 rfl 0 rfl ?_
      refine m_get_extra C wf_RX6_37 dX6_keep_96 ?_
      refine g_iload B dX6_keep_99 5 rfl ?_
      refine g_aload_n B dX6_keep_101 rfl 0 rfl ?_
      refine m_get_extra C wf_RX6_37 dX6_keep_102 ?_
      refine g_iload B dX6_keep_105 5 rfl ?_
      refine g_iconst (v := 1) B dX6_keep_107 (by decide) ?_
      refine g_isub B dX6_keep_108 ?_
      obtain ⟨h17, hf⟩ := sat_chk hf
      refine m_iald C 9 (by decide) rfl h17 dX6_keep_109 ?_
      obtain ⟨h18, hf⟩ := sat_chk hf
      obtain ⟨σ18, e18, hf⟩ := sat_nm hf
      refine m_iast C 9 (by decide) rfl h18 dX6_keep_110 (g_mem2 e18 ?_)
      refine g_iinc B (v2_5 + (-1)) [(0, .ref (kAd K 0)), (1, .int p1), (2, .int p2), (3, .int p3), (4, .int p4), (5, .int ((v2_5 + (-1))))] dX6_keep_111 5 rfl rfl (by decide) [1, 2, 3, 4, 5, 0] rfl ?_
      refine g_goto (tgt := 14) B dX6_keep_114 (by decide) ?_
      have hf := sum_l (sat_some hf)
      exact g_sub hf [0, 1, 2, 3, 4, 5] rfl
    subst eP12
    refine g_icmp_gt (tgt := 63) B dX6_keep_34 (by decide) (fun c11 => ?_) (fun c11 => ?_)
    · have hf := sat_t hf c11
      have hf := hk12 σ2 hf
      exact g_sub hf [0, 1, 2, 3, 4, 5] rfl
    · have hf := sat_f hf c11
      refine g_aload_n B dX6_keep_37 rfl 0 rfl ?_
      refine m_get_name C wf_RX6_31 dX6_keep_38 ?_
      refine g_iload B dX6_keep_41 5 rfl ?_
      refine g_iconst (v := 1) B dX6_keep_43 (by decide) ?_
      refine g_isub B dX6_keep_44 ?_
      obtain ⟨h19, hf⟩ := sat_chk hf
      refine m_iald C 7 (by decide) rfl h19 dX6_keep_45 ?_
      refine g_iload_n B dX6_keep_46 rfl 2 rfl ?_
      refine g_icmp_ne (tgt := 117) B dX6_keep_47 (by decide) (fun c20 => ?_) (fun c20 => ?_)
      · have hf := sat_f hf c20
        have hf := sum_r (sat_some hf)
        exact g_sub hf [0, 1, 2, 3, 4, 5] rfl
      · have hf := sat_t hf c20
        refine g_aload_n B dX6_keep_50 rfl 0 rfl ?_
        refine m_get_greater C wf_RX6_34 dX6_keep_51 ?_
        refine g_iload B dX6_keep_54 5 rfl ?_
        refine g_iconst (v := 1) B dX6_keep_56 (by decide) ?_
        refine g_isub B dX6_keep_57 ?_
        obtain ⟨h21, hf⟩ := sat_chk hf
        refine m_iald C 8 (by decide) rfl h21 dX6_keep_58 ?_
        refine g_iload_n B dX6_keep_59 rfl 3 rfl ?_
        refine g_icmp_le (tgt := 117) B dX6_keep_60 (by decide) (fun c22 => ?_) (fun c22 => ?_)
        · have hf := sat_t hf c22
          have hf := sum_r (sat_some hf)
          exact g_sub hf [0, 1, 2, 3, 4, 5] rfl
        · have hf := sat_f hf c22
          have hf := hk12 σ2 hf
          exact g_sub hf [0, 1, 2, 3, 4, 5] rfl
theorem c_X6_keep (l : Launch) (D : va_G) (Ad : Nat → Nat) (cI : ClassId) {σ : Mm} {p1 : Int32} {p2 : Int32} {p3 : Int32} {p4 : Int32} {τ : Mm} (h : f_X6_keep σ p1 p2 p3 p4 = some τ) : CtV l D (tysM cI) (wdM Ad cI) StM yX6_keep cX6_keep 6 0 σ [.ref (Ad 0), .int p1, .int p2, .int p3, .int p4] τ := by
  refine metV (Ad := Ad) (cI := cI) (cP := cI) (cII := cI) (by decide) (Nat.le_of_ble_eq_true rfl) (wdG_ok _ _ _) stOK_M rfl (fun K C G hR => ?_)
  have e : kAd K = Ad := G.2.2.2.2.2.1
  have C2 := cM_of C G
  have h9 := w_X6_keep C2 σ p1 p2 p3 p4 ⟨_, h, by rw [hR]; exact ⟨rfl, rfl⟩⟩
  rw [e] at h9
  exact h9
theorem ck_X6_keep {K : Kx} {cc : ByteArray} {own : String} {nL d : Nat} {rty : Option FieldType} (C : CxM K cc own nL d rty) {σ : Mm} {p1 : Int32} {p2 : Int32} {p3 : Int32} {p4 : Int32} {τ : Mm} (h : f_X6_keep σ p1 p2 p3 p4 = some τ) : CtV (kl K) (kD K) (ktys K) (kwf K) (kSt K) yX6_keep cX6_keep 6 0 σ [.ref (kAd K 0), .int p1, .int p2, .int p3, .int p4] τ := cM_eq C (P := fun l D tys wf St => CtV l D tys wf St yX6_keep cX6_keep 6 0 σ [.ref (kAd K 0), .int p1, .int p2, .int p3, .int p4] τ) (c_X6_keep _ _ _ _ h)
def f_X6_findDouble_t151 (v3_5 : Int32) (p1 : Int32) (p2 : Int32) (σ17 : Mm) (v17_6 : Int32) : Option ((Mm × Int32) ⊕ (Mm)) :=
  chk (inb v3_5 18) (bn1 ((if (σ17 11 v3_5.toNatClampNeg) ≤ 0 then chk (inb v17_6 18) (some (σ17, (σ17 11 v17_6.toNatClampNeg))) else chk (inb v3_5 18) (some (σ17, (σ17 11 v3_5.toNatClampNeg)))) : Option (Mm × Int32)) (fun σ19 w19_0 => chk (inb v3_5 18) (chk (inb v17_6 18) (chk (inb v17_6 18) (chk (inb v3_5 18) (bn1 (f_X6_highs σ19 (σ19 12 v3_5.toNatClampNeg)) (fun σ24 r24 => chk (inb v17_6 18) (bn1 (f_X6_highs σ24 (σ24 12 v17_6.toNatClampNeg)) (fun σ26 r26 => bn0 (f_X6_keep σ26 p1 (((1000 * p2) + (10 * w19_0)) + (σ19 12 v3_5.toNatClampNeg)) (((1000 * (p2 + 1)) + (10 * (σ19 11 v17_6.toNatClampNeg))) + (σ19 12 v17_6.toNatClampNeg)) (r24 + r26)) (fun σ27 => some (.inl (σ27, (v17_6 + 1)))))))))))))
def f_X6_findDouble_s35 (v3_5 : Int32) (p1 : Int32) (p2 : Int32) (σ7 : Mm) (v7_6 : Int32) : Option ((Mm × Int32) ⊕ (Mm)) :=
  chk (inb 1 2) ((if (9 + (σ7 13 (1 : Int32).toNatClampNeg)) ≤ v7_6 then some (.inr σ7) else chk (inb v3_5 18) (bn1 ((if (σ7 12 v3_5.toNatClampNeg) ≤ 0 then some (σ7, 0) else chk (inb v7_6 18) ((if (σ7 12 v7_6.toNatClampNeg) ≤ 0 then some (σ7, 0) else some (σ7, 1)))) : Option (Mm × Int32)) (fun σ12 w12_0 => chk (inb v3_5 18) (chk (inb v7_6 18) (bn1 ((if ((σ12 12 v3_5.toNatClampNeg) - (σ12 12 v3_5.toNatClampNeg) / 5 * 5) = ((σ12 12 v7_6.toNatClampNeg) - (σ12 12 v7_6.toNatClampNeg) / 5 * 5) then some (σ12, 1) else some (σ12, 0)) : Option (Mm × Int32)) (fun σ15 w15_0 => (if w12_0 = 0 then (f_X6_findDouble_t151 v3_5 p1 p2 σ15 v7_6) else chk (inb v3_5 18) (chk (inb v7_6 18) ((if (σ15 11 v3_5.toNatClampNeg) = (σ15 11 v7_6.toNatClampNeg) then (if w15_0 = 0 then (f_X6_findDouble_t151 v3_5 p1 p2 σ15 v7_6) else chk (inb v3_5 18) (chk (inb v7_6 18) ((if (σ15 12 v3_5.toNatClampNeg) = (σ15 12 v7_6.toNatClampNeg) then (f_X6_findDouble_t151 v3_5 p1 p2 σ15 v7_6) else some (.inl (σ15, (v7_6 + 1))))))) else some (.inl (σ15, (v7_6 + 1))))))))))))))
def f_X6_findDouble_s20 (p1 : Int32) (p2 : Int32) (σ3 : Mm) (v3_5 : Int32) : Option ((Mm × Int32) ⊕ (Mm)) :=
  chk (inb 0 2) ((if (σ3 13 (0 : Int32).toNatClampNeg) ≤ v3_5 then some (.inr σ3) else bn0 (lq1 (f_X6_findDouble_s35 v3_5 p1 p2) fu σ3 9) (fun σ8 => some (.inl (σ8, (v3_5 + 1))))))
def f_X6_findDouble (σ : Mm) (p1 : Int32) (p2 : Int32) (p3 : Int32) (p4 : Int32) : Option (Mm) :=
  bn0 (f_X6_findOnes σ 0 p2 p3) (fun σ1 => bn0 (f_X6_findOnes σ1 1 (p2 + 1) p4) (fun σ2 => bn0 (lq1 (f_X6_findDouble_s20 p1 p2) fu σ2 0) (fun σ4 => some σ4)))
set_option maxHeartbeats 4000000 in
set_option maxRecDepth 100000 in
theorem w_X6_findDouble {K : Kx} (C : CxM K cX6_findDouble RX6 10 2 none) (σ : Mm) (p1 : Int32) (p2 : Int32) (p3 : Int32) (p4 : Int32) (hf : Sat (f_X6_findDouble σ p1 p2 p3 p4) (fun o => kRt K none o)) : Gj K σ 0 [(0, .ref (kAd K 0)), (1, .int p1), (2, .int p2), (3, .int p3), (4, .int p4)] [] := by
  unfold f_X6_findDouble at hf
  have B := C.1
  refine g_aload_n B dX6_findDouble_0 rfl 0 rfl ?_
  refine g_iconst (v := 0) B dX6_findDouble_1 (by decide) ?_
  refine g_iload_n B dX6_findDouble_2 rfl 2 rfl ?_
  refine g_iload_n B dX6_findDouble_3 rfl 3 rfl ?_
  obtain ⟨σ1, h1, hf⟩ := sat_ca0 hf
  refine g_cVV (rest := []) B (ck_X6_findOnes C h1) mo_X6_findOnes wm_RX6_79 (by decide) (cM_o C) rfl rfl rfl (Nat.le_of_ble_eq_true rfl) dX6_findDouble_4 ?_
  refine g_aload_n B dX6_findDouble_7 rfl 0 rfl ?_
  refine g_iconst (v := 1) B dX6_findDouble_8 (by decide) ?_
  refine g_iload_n B dX6_findDouble_9 rfl 2 rfl ?_
  refine g_iconst (v := 1) B dX6_findDouble_10 (by decide) ?_
  refine g_iadd B dX6_findDouble_11 ?_
  refine g_iload B dX6_findDouble_12 4 rfl ?_
  obtain ⟨σ2, h2, hf⟩ := sat_ca0 hf
  refine g_cVV (rest := []) B (ck_X6_findOnes C h2) mo_X6_findOnes wm_RX6_79 (by decide) (cM_o C) rfl rfl rfl (Nat.le_of_ble_eq_true rfl) dX6_findDouble_14 ?_
  refine g_iconst (v := 0) B dX6_findDouble_17 (by decide) ?_
  refine g_istore B [(0, .ref (kAd K 0)), (1, .int p1), (2, .int p2), (3, .int p3), (4, .int p4), (5, .int 0)] dX6_findDouble_18 (by decide) [1, 2, 3, 4, 5, 0] rfl ?_
  refine g_sub (lv' := [(0, .ref (kAd K 0)), (1, .int p1), (2, .int p2), (5, .int 0)]) ?_ [0, 1, 2, 5] rfl
  have hf := sat_cu0 (G := fun σ4 => Gj K σ4 263 [] []) hf (by
    intro σ4 hf
    have hf := sat_some hf
    exact g_vret B rfl dX6_findDouble_263 hf)
  refine lqr1 (Gh := fun σ3 v3_5 => Gj K σ3 20 [(0, .ref (kAd K 0)), (1, .int p1), (2, .int p2), (5, .int v3_5)] []) ?_ fu σ2 0 hf
  intro σ3 v3_5 hf
  unfold f_X6_findDouble_s20 at hf
  refine g_iload B dX6_findDouble_20 3 rfl ?_
  refine g_aload_n B dX6_findDouble_22 rfl 0 rfl ?_
  refine m_get_ones C wf_RX6_46 dX6_findDouble_23 ?_
  refine g_iconst (v := 0) B dX6_findDouble_26 (by decide) ?_
  obtain ⟨h5, hf⟩ := sat_chk hf
  refine m_iald C 12 (by decide) rfl h5 dX6_findDouble_27 ?_
  refine g_icmp_ge (tgt := 263) B dX6_findDouble_28 (by decide) (fun c6 => ?_) (fun c6 => ?_)
  · have hf := sat_t hf c6
    have hf := sum_r (sat_some hf)
    exact g_sub hf [] rfl
  · have hf := sat_f hf c6
    refine g_bipush (v := 9) B dX6_findDouble_31 (by decide) ?_
    refine g_istore B [(0, .ref (kAd K 0)), (1, .int p1), (2, .int p2), (5, .int v3_5), (6, .int 9)] dX6_findDouble_33 (by decide) [1, 2, 3, 4, 0] rfl ?_
    have hf := sat_cu0 (G := fun σ8 => Gj K σ8 257 [(0, .ref (kAd K 0)), (1, .int p1), (2, .int p2), (5, .int v3_5)] []) hf (by
      intro σ8 hf
      refine g_iinc B (v3_5 + 1) [(0, .ref (kAd K 0)), (1, .int p1), (2, .int p2), (5, .int ((v3_5 + 1)))] dX6_findDouble_257 3 rfl rfl (by decide) [1, 2, 3, 0] rfl ?_
      refine g_goto (tgt := 20) B dX6_findDouble_260 (by decide) ?_
      have hf := sum_l (sat_some hf)
      exact g_sub hf [0, 1, 2, 3] rfl)
    refine lqr1 (Gh := fun σ7 v7_6 => Gj K σ7 35 [(0, .ref (kAd K 0)), (1, .int p1), (2, .int p2), (5, .int v3_5), (6, .int v7_6)] []) ?_ fu σ3 9 hf
    intro σ7 v7_6 hf
    unfold f_X6_findDouble_s35 at hf
    refine g_iload B dX6_findDouble_35 4 rfl ?_
    refine g_bipush (v := 9) B dX6_findDouble_37 (by decide) ?_
    refine g_aload_n B dX6_findDouble_39 rfl 0 rfl ?_
    refine m_get_ones C wf_RX6_46 dX6_findDouble_40 ?_
    refine g_iconst (v := 1) B dX6_findDouble_43 (by decide) ?_
    obtain ⟨h9, hf⟩ := sat_chk hf
    refine m_iald C 12 (by decide) rfl h9 dX6_findDouble_44 ?_
    refine g_iadd B dX6_findDouble_45 ?_
    refine g_icmp_ge (tgt := 257) B dX6_findDouble_46 (by decide) (fun c10 => ?_) (fun c10 => ?_)
    · have hf := sat_t hf c10
      have hf := sum_r (sat_some hf)
      exact g_sub hf [0, 1, 2, 3] rfl
    · have hf := sat_f hf c10
      refine g_aload_n B dX6_findDouble_49 rfl 0 rfl ?_
      refine m_get_oneLast C wf_RX6_43 dX6_findDouble_50 ?_
      refine g_iload B dX6_findDouble_53 3 rfl ?_
      obtain ⟨h11, hf⟩ := sat_chk hf
      refine m_iald C 11 (by decide) rfl h11 dX6_findDouble_55 ?_
      have hf := sat_cu1 (G := fun σ12 w12_0 => Gj K σ12 74 [(0, .ref (kAd K 0)), (1, .int p1), (2, .int p2), (5, .int v3_5), (6, .int v7_6)] [.int w12_0]) hf (by
        intro σ12 w12_0 hf
        refine g_istore B [(0, .ref (kAd K 0)), (1, .int p1), (2, .int p2), (5, .int v3_5), (6, .int v7_6), (7, .int w12_0)] dX6_findDouble_74 (by decide) [1, 2, 3, 4, 5, 0] rfl ?_
        refine g_aload_n B dX6_findDouble_76 rfl 0 rfl ?_
        refine m_get_oneLast C wf_RX6_43 dX6_findDouble_77 ?_
        refine g_iload B dX6_findDouble_80 3 rfl ?_
        obtain ⟨h13, hf⟩ := sat_chk hf
        refine m_iald C 11 (by decide) rfl h13 dX6_findDouble_82 ?_
        refine g_iconst (v := 5) B dX6_findDouble_83 (by decide) ?_
        refine g_irem B (by decide) dX6_findDouble_84 ?_
        refine g_aload_n B dX6_findDouble_85 rfl 0 rfl ?_
        refine m_get_oneLast C wf_RX6_43 dX6_findDouble_86 ?_
        refine g_iload B dX6_findDouble_89 4 rfl ?_
        obtain ⟨h14, hf⟩ := sat_chk hf
        refine m_iald C 11 (by decide) rfl h14 dX6_findDouble_91 ?_
        refine g_iconst (v := 5) B dX6_findDouble_92 (by decide) ?_
        refine g_irem B (by decide) dX6_findDouble_93 ?_
        have hf := sat_cu1 (G := fun σ15 w15_0 => Gj K σ15 102 [(0, .ref (kAd K 0)), (1, .int p1), (2, .int p2), (5, .int v3_5), (6, .int v7_6), (7, .int w12_0)] [.int w15_0]) hf (by
          intro σ15 w15_0 hf
          refine g_istore B [(0, .ref (kAd K 0)), (1, .int p1), (2, .int p2), (5, .int v3_5), (6, .int v7_6), (7, .int w12_0), (8, .int w15_0)] dX6_findDouble_102 (by decide) [1, 2, 3, 4, 5, 6, 0] rfl ?_
          refine g_iload B dX6_findDouble_104 5 rfl ?_
          refine sat_P hf (fun P17 eP17 hf => ?_)
          have hk17 : ∀ (σ17 : Mm) (v17_6 : Int32), Sat (f_X6_findDouble_t151 v3_5 p1 p2 σ17 v17_6) P17 → Gj K σ17 151 [(0, .ref (kAd K 0)), (1, .int p1), (2, .int p2), (5, .int v3_5), (6, .int v17_6)] [] := by
            intro σ17 v17_6 hf
            rw [eP17] at hf
            unfold f_X6_findDouble_t151 at hf
            refine g_aload_n B dX6_findDouble_151 rfl 0 rfl ?_
            refine m_get_oneHand C wf_RX6_40 dX6_findDouble_152 ?_
            refine g_iload B dX6_findDouble_155 3 rfl ?_
            obtain ⟨h18, hf⟩ := sat_chk hf
            refine m_iald C 10 (by decide) rfl h18 dX6_findDouble_157 ?_
            have hf := sat_cu1 (G := fun σ19 w19_0 => Gj K σ19 178 [(0, .ref (kAd K 0)), (1, .int p1), (2, .int p2), (5, .int v3_5), (6, .int v17_6)] [.int w19_0]) hf (by
              intro σ19 w19_0 hf
              refine g_istore B [(0, .ref (kAd K 0)), (1, .int p1), (2, .int p2), (5, .int v3_5), (6, .int v17_6), (9, .int w19_0)] dX6_findDouble_178 (by decide) [1, 2, 3, 4, 5, 0] rfl ?_
              refine g_aload_n B dX6_findDouble_180 rfl 0 rfl ?_
              refine g_iload_n B dX6_findDouble_181 rfl 1 rfl ?_
              refine g_sipush (v := 1000) B dX6_findDouble_182 (by decide) ?_
              refine g_iload_n B dX6_findDouble_185 rfl 2 rfl ?_
              refine g_imul B dX6_findDouble_186 ?_
              refine g_bipush (v := 10) B dX6_findDouble_187 (by decide) ?_
              refine g_iload B dX6_findDouble_189 5 rfl ?_
              refine g_imul B dX6_findDouble_191 ?_
              refine g_iadd B dX6_findDouble_192 ?_
              refine g_aload_n B dX6_findDouble_193 rfl 0 rfl ?_
              refine m_get_oneLast C wf_RX6_43 dX6_findDouble_194 ?_
              refine g_iload B dX6_findDouble_197 3 rfl ?_
              obtain ⟨h20, hf⟩ := sat_chk hf
              refine m_iald C 11 (by decide) rfl h20 dX6_findDouble_199 ?_
              refine g_iadd B dX6_findDouble_200 ?_
              refine g_sipush (v := 1000) B dX6_findDouble_201 (by decide) ?_
              refine g_iload_n B dX6_findDouble_204 rfl 2 rfl ?_
              refine g_iconst (v := 1) B dX6_findDouble_205 (by decide) ?_
              refine g_iadd B dX6_findDouble_206 ?_
              refine g_imul B dX6_findDouble_207 ?_
              refine g_bipush (v := 10) B dX6_findDouble_208 (by decide) ?_
              refine g_aload_n B dX6_findDouble_210 rfl 0 rfl ?_
              refine m_get_oneHand C wf_RX6_40 dX6_findDouble_211 ?_
              refine g_iload B dX6_findDouble_214 4 rfl ?_
              obtain ⟨h21, hf⟩ := sat_chk hf
              refine m_iald C 10 (by decide) rfl h21 dX6_findDouble_216 ?_
              refine g_imul B dX6_findDouble_217 ?_
              refine g_iadd B dX6_findDouble_218 ?_
              refine g_aload_n B dX6_findDouble_219 rfl 0 rfl ?_
              refine m_get_oneLast C wf_RX6_43 dX6_findDouble_220 ?_
              refine g_iload B dX6_findDouble_223 4 rfl ?_
              obtain ⟨h22, hf⟩ := sat_chk hf
              refine m_iald C 11 (by decide) rfl h22 dX6_findDouble_225 ?_
              refine g_iadd B dX6_findDouble_226 ?_
              refine g_aload_n B dX6_findDouble_227 rfl 0 rfl ?_
              refine m_get_oneLast C wf_RX6_43 dX6_findDouble_228 ?_
              refine g_iload B dX6_findDouble_231 3 rfl ?_
              obtain ⟨h23, hf⟩ := sat_chk hf
              refine m_iald C 11 (by decide) rfl h23 dX6_findDouble_233 ?_
              obtain ⟨σ24, r24, h24, hf⟩ := sat_ca1 hf
              refine g_cSI (rest := [.int ((((1000 * (p2 + 1)) + (10 * (σ19 11 v17_6.toNatClampNeg))) + (σ19 12 v17_6.toNatClampNeg))), .int ((((1000 * p2) + (10 * w19_0)) + (σ19 12 v3_5.toNatClampNeg))), .int p1, .ref (kAd K 0)]) B (ck_X6_highs C h24) mo_X6_highs wm_RX6_83 (by decide) rfl rfl (Nat.le_of_ble_eq_true rfl) dX6_findDouble_234 ?_
              refine g_aload_n B dX6_findDouble_237 rfl 0 rfl ?_
              refine m_get_oneLast C wf_RX6_43 dX6_findDouble_238 ?_
              refine g_iload B dX6_findDouble_241 4 rfl ?_
              obtain ⟨h25, hf⟩ := sat_chk hf
              refine m_iald C 11 (by decide) rfl h25 dX6_findDouble_243 ?_
              obtain ⟨σ26, r26, h26, hf⟩ := sat_ca1 hf
              refine g_cSI (rest := [.int r24, .int ((((1000 * (p2 + 1)) + (10 * (σ19 11 v17_6.toNatClampNeg))) + (σ19 12 v17_6.toNatClampNeg))), .int ((((1000 * p2) + (10 * w19_0)) + (σ19 12 v3_5.toNatClampNeg))), .int p1, .ref (kAd K 0)]) B (ck_X6_highs C h26) mo_X6_highs wm_RX6_83 (by decide) rfl rfl (Nat.le_of_ble_eq_true rfl) dX6_findDouble_244 ?_
              refine g_iadd B dX6_findDouble_247 ?_
              obtain ⟨σ27, h27, hf⟩ := sat_ca0 hf
              refine g_cVV (rest := []) B (ck_X6_keep C h27) mo_X6_keep wm_RX6_87 (by decide) (cM_o C) rfl rfl rfl (Nat.le_of_ble_eq_true rfl) dX6_findDouble_248 ?_
              refine g_iinc B (v17_6 + 1) [(0, .ref (kAd K 0)), (1, .int p1), (2, .int p2), (5, .int v3_5), (6, .int ((v17_6 + 1))), (9, .int w19_0)] dX6_findDouble_251 4 rfl rfl (by decide) [1, 2, 3, 4, 0, 5] rfl ?_
              refine g_goto (tgt := 35) B dX6_findDouble_254 (by decide) ?_
              have hf := sum_l (sat_some hf)
              exact g_sub hf [0, 1, 2, 3, 4] rfl)
            refine g_if_le (tgt := 171) B dX6_findDouble_158 (by decide) (fun c19 => ?_) (fun c19 => ?_)
            · have hf := sat_t hf c19
              refine g_aload_n B dX6_findDouble_171 rfl 0 rfl ?_
              refine m_get_oneHand C wf_RX6_40 dX6_findDouble_172 ?_
              refine g_iload B dX6_findDouble_175 4 rfl ?_
              obtain ⟨h28, hf⟩ := sat_chk hf
              refine m_iald C 10 (by decide) rfl h28 dX6_findDouble_177 ?_
              have hf := sat_some hf
              exact g_sub hf [0, 1, 2, 3, 4] rfl
            · have hf := sat_f hf c19
              refine g_aload_n B dX6_findDouble_161 rfl 0 rfl ?_
              refine m_get_oneHand C wf_RX6_40 dX6_findDouble_162 ?_
              refine g_iload B dX6_findDouble_165 3 rfl ?_
              obtain ⟨h29, hf⟩ := sat_chk hf
              refine m_iald C 10 (by decide) rfl h29 dX6_findDouble_167 ?_
              refine g_goto (tgt := 178) B dX6_findDouble_168 (by decide) ?_
              have hf := sat_some hf
              exact g_sub hf [0, 1, 2, 3, 4] rfl
          subst eP17
          refine g_if_eq (tgt := 151) B dX6_findDouble_106 (by decide) (fun c16 => ?_) (fun c16 => ?_)
          · have hf := sat_t hf c16
            have hf := hk17 σ15 v7_6 hf
            exact g_sub hf [0, 1, 2, 3, 4] rfl
          · have hf := sat_f hf c16
            refine g_aload_n B dX6_findDouble_109 rfl 0 rfl ?_
            refine m_get_oneHand C wf_RX6_40 dX6_findDouble_110 ?_
            refine g_iload B dX6_findDouble_113 3 rfl ?_
            obtain ⟨h30, hf⟩ := sat_chk hf
            refine m_iald C 10 (by decide) rfl h30 dX6_findDouble_115 ?_
            refine g_aload_n B dX6_findDouble_116 rfl 0 rfl ?_
            refine m_get_oneHand C wf_RX6_40 dX6_findDouble_117 ?_
            refine g_iload B dX6_findDouble_120 4 rfl ?_
            obtain ⟨h31, hf⟩ := sat_chk hf
            refine m_iald C 10 (by decide) rfl h31 dX6_findDouble_122 ?_
            refine g_icmp_ne (tgt := 251) B dX6_findDouble_123 (by decide) (fun c32 => ?_) (fun c32 => ?_)
            · have hf := sat_f hf c32
              refine g_iinc B (v7_6 + 1) [(0, .ref (kAd K 0)), (1, .int p1), (2, .int p2), (5, .int v3_5), (6, .int ((v7_6 + 1))), (7, .int w12_0), (8, .int w15_0)] dX6_findDouble_251 4 rfl rfl (by decide) [1, 2, 3, 4, 0, 5, 6] rfl ?_
              refine g_goto (tgt := 35) B dX6_findDouble_254 (by decide) ?_
              have hf := sum_l (sat_some hf)
              exact g_sub hf [0, 1, 2, 3, 4] rfl
            · have hf := sat_t hf c32
              refine g_iload B dX6_findDouble_126 6 rfl ?_
              refine g_if_eq (tgt := 151) B dX6_findDouble_128 (by decide) (fun c33 => ?_) (fun c33 => ?_)
              · have hf := sat_t hf c33
                have hf := hk17 σ15 v7_6 hf
                exact g_sub hf [0, 1, 2, 3, 4] rfl
              · have hf := sat_f hf c33
                refine g_aload_n B dX6_findDouble_131 rfl 0 rfl ?_
                refine m_get_oneLast C wf_RX6_43 dX6_findDouble_132 ?_
                refine g_iload B dX6_findDouble_135 3 rfl ?_
                obtain ⟨h34, hf⟩ := sat_chk hf
                refine m_iald C 11 (by decide) rfl h34 dX6_findDouble_137 ?_
                refine g_aload_n B dX6_findDouble_138 rfl 0 rfl ?_
                refine m_get_oneLast C wf_RX6_43 dX6_findDouble_139 ?_
                refine g_iload B dX6_findDouble_142 4 rfl ?_
                obtain ⟨h35, hf⟩ := sat_chk hf
                refine m_iald C 11 (by decide) rfl h35 dX6_findDouble_144 ?_
                refine g_icmp_eq (tgt := 151) B dX6_findDouble_145 (by decide) (fun c36 => ?_) (fun c36 => ?_)
                · have hf := sat_t hf c36
                  have hf := hk17 σ15 v7_6 hf
                  exact g_sub hf [0, 1, 2, 3, 4] rfl
                · have hf := sat_f hf c36
                  refine g_goto (tgt := 251) B dX6_findDouble_148 (by decide) ?_
                  refine g_iinc B (v7_6 + 1) [(0, .ref (kAd K 0)), (1, .int p1), (2, .int p2), (5, .int v3_5), (6, .int ((v7_6 + 1))), (7, .int w12_0), (8, .int w15_0)] dX6_findDouble_251 4 rfl rfl (by decide) [1, 2, 3, 4, 0, 5, 6] rfl ?_
                  refine g_goto (tgt := 35) B dX6_findDouble_254 (by decide) ?_
                  have hf := sum_l (sat_some hf)
                  exact g_sub hf [0, 1, 2, 3, 4] rfl)
        refine g_icmp_ne (tgt := 101) B dX6_findDouble_94 (by decide) (fun c15 => ?_) (fun c15 => ?_)
        · have hf := sat_f hf c15
          refine g_iconst (v := 0) B dX6_findDouble_101 (by decide) ?_
          have hf := sat_some hf
          exact g_sub hf [0, 1, 2, 3, 4, 5] rfl
        · have hf := sat_t hf c15
          refine g_iconst (v := 1) B dX6_findDouble_97 (by decide) ?_
          refine g_goto (tgt := 102) B dX6_findDouble_98 (by decide) ?_
          have hf := sat_some hf
          exact g_sub hf [0, 1, 2, 3, 4, 5] rfl)
      refine g_if_le (tgt := 73) B dX6_findDouble_56 (by decide) (fun c12 => ?_) (fun c12 => ?_)
      · have hf := sat_t hf c12
        refine g_iconst (v := 0) B dX6_findDouble_73 (by decide) ?_
        have hf := sat_some hf
        exact g_sub hf [0, 1, 2, 3, 4] rfl
      · have hf := sat_f hf c12
        refine g_aload_n B dX6_findDouble_59 rfl 0 rfl ?_
        refine m_get_oneLast C wf_RX6_43 dX6_findDouble_60 ?_
        refine g_iload B dX6_findDouble_63 4 rfl ?_
        obtain ⟨h37, hf⟩ := sat_chk hf
        refine m_iald C 11 (by decide) rfl h37 dX6_findDouble_65 ?_
        refine g_if_le (tgt := 73) B dX6_findDouble_66 (by decide) (fun c38 => ?_) (fun c38 => ?_)
        · have hf := sat_t hf c38
          refine g_iconst (v := 0) B dX6_findDouble_73 (by decide) ?_
          have hf := sat_some hf
          exact g_sub hf [0, 1, 2, 3, 4] rfl
        · have hf := sat_f hf c38
          refine g_iconst (v := 1) B dX6_findDouble_69 (by decide) ?_
          refine g_goto (tgt := 74) B dX6_findDouble_70 (by decide) ?_
          have hf := sat_some hf
          exact g_sub hf [0, 1, 2, 3, 4] rfl
theorem c_X6_findDouble (l : Launch) (D : va_G) (Ad : Nat → Nat) (cI : ClassId) {σ : Mm} {p1 : Int32} {p2 : Int32} {p3 : Int32} {p4 : Int32} {τ : Mm} (h : f_X6_findDouble σ p1 p2 p3 p4 = some τ) : CtV l D (tysM cI) (wdM Ad cI) StM yX6_findDouble cX6_findDouble 10 2 σ [.ref (Ad 0), .int p1, .int p2, .int p3, .int p4] τ := by
  refine metV (Ad := Ad) (cI := cI) (cP := cI) (cII := cI) (by decide) (Nat.le_of_ble_eq_true rfl) (wdG_ok _ _ _) stOK_M rfl (fun K C G hR => ?_)
  have e : kAd K = Ad := G.2.2.2.2.2.1
  have C2 := cM_of C G
  have h9 := w_X6_findDouble C2 σ p1 p2 p3 p4 ⟨_, h, by rw [hR]; exact ⟨rfl, rfl⟩⟩
  rw [e] at h9
  exact h9
theorem ck_X6_findDouble {K : Kx} {cc : ByteArray} {own : String} {nL d : Nat} {rty : Option FieldType} (C : CxM K cc own nL d rty) {σ : Mm} {p1 : Int32} {p2 : Int32} {p3 : Int32} {p4 : Int32} {τ : Mm} (h : f_X6_findDouble σ p1 p2 p3 p4 = some τ) : CtV (kl K) (kD K) (ktys K) (kwf K) (kSt K) yX6_findDouble cX6_findDouble 10 2 σ [.ref (kAd K 0), .int p1, .int p2, .int p3, .int p4] τ := cM_eq C (P := fun l D tys wf St => CtV l D tys wf St yX6_findDouble cX6_findDouble 10 2 σ [.ref (kAd K 0), .int p1, .int p2, .int p3, .int p4] τ) (c_X6_findDouble _ _ _ _ h)
