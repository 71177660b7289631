def f_X6_alikes_s37 (v4_4 : Int32) (v1_3 : Int32) (v7_5 : Int32) (p1 : Int32) (σ11 : Mm) (v11_2 : Int32) (v11_6 : Int32) : Option ((Mm × Int32 × Int32) ⊕ (Mm × Int32)) :=
  chk (inb v4_4 3) ((if (σ11 2 v4_4.toNatClampNeg) ≤ v11_6 then some (.inr (σ11, v11_2)) else bn1 (f_X6_areAlike σ11 v1_3 v7_5 v4_4 v11_6) (fun σ15 r15 => bn1 ((if r15 = 0 then some (σ15, 0) else (if p1 = 0 then some (σ15, 1) else chk (inb ((12 * v1_3) + v7_5) 36) (chk (inb ((12 * v4_4) + v11_6) 36) ((if (σ15 17 ((12 * v1_3) + v7_5).toNatClampNeg) = (σ15 17 ((12 * v4_4) + v11_6).toNatClampNeg) then some (σ15, 0) else some (σ15, 1)))))) : Option (Mm × Int32)) (fun σ16 w16_0 => (if w16_0 = 0 then some (.inl (σ16, (v11_2 + 0), (v11_6 + 1))) else some (.inl (σ16, (v11_2 + 1), (v11_6 + 1))))))))
def f_X6_alikes_s23 (v1_3 : Int32) (v4_4 : Int32) (p1 : Int32) (σ7 : Mm) (v7_2 : Int32) (v7_5 : Int32) : Option ((Mm × Int32 × Int32) ⊕ (Mm × Int32)) :=
  chk (inb v1_3 3) ((if (σ7 2 v1_3.toNatClampNeg) ≤ v7_5 then some (.inr (σ7, v7_2)) else bn1 (lq2 (f_X6_alikes_s37 v4_4 v1_3 v7_5 p1) fu σ7 v7_2 0) (fun σ12 v12_2 => some (.inl (σ12, v12_2, (v7_5 + 1))))))
def f_X6_alikes_s14 (v1_3 : Int32) (p1 : Int32) (σ4 : Mm) (v4_2 : Int32) (v4_4 : Int32) : Option ((Mm × Int32 × Int32) ⊕ (Mm × Int32)) :=
  (if 3 ≤ v4_4 then some (.inr (σ4, v4_2)) else bn1 (lq2 (f_X6_alikes_s23 v1_3 v4_4 p1) fu σ4 v4_2 0) (fun σ8 v8_2 => some (.inl (σ8, v8_2, (v4_4 + 1)))))
def f_X6_alikes_s4 (p1 : Int32) (σ1 : Mm) (v1_2 : Int32) (v1_3 : Int32) : Option ((Mm × Int32 × Int32) ⊕ (Mm × Int32)) :=
  (if 3 ≤ v1_3 then some (.inr (σ1, v1_2)) else bn1 (lq2 (f_X6_alikes_s14 v1_3 p1) fu σ1 v1_2 (v1_3 + 1)) (fun σ5 v5_2 => some (.inl (σ5, v5_2, (v1_3 + 1)))))
def f_X6_alikes (σ : Mm) (p1 : Int32) : Option (Mm × Int32) :=
  bn1 (lq2 (f_X6_alikes_s4 p1) fu σ 0 0) (fun σ2 v2_2 => some (σ2, v2_2))
set_option maxHeartbeats 4000000 in
set_option maxRecDepth 100000 in
theorem w_X6_alikes {K : Kx} (C : CxM K cX6_alikes RX6 8 2 (some .int)) (σ : Mm) (p1 : Int32) (hf : Sat (f_X6_alikes σ p1) (fun o => kRt K (some (.int o.2)) o.1)) : Gj K σ 0 [(0, .ref (kAd K 0)), (1, .int p1)] [] := by
  unfold f_X6_alikes at hf
  have B := C.1
  refine g_iconst (v := 0) B dX6_alikes_0 (by decide) ?_
  refine g_istore_n B [(0, .ref (kAd K 0)), (1, .int p1), (2, .int 0)] dX6_alikes_1 rfl (by decide) [1, 2, 0] rfl ?_
  refine g_iconst (v := 0) B dX6_alikes_2 (by decide) ?_
  refine g_istore_n B [(0, .ref (kAd K 0)), (1, .int p1), (2, .int 0), (3, .int 0)] dX6_alikes_3 rfl (by decide) [1, 2, 3, 0] rfl ?_
  have hf := sat_cu1 (G := fun σ2 v2_2 => Gj K σ2 139 [(2, .int v2_2)] []) hf (by
    intro σ2 v2_2 hf
    refine g_iload_n B dX6_alikes_139 rfl 0 rfl ?_
    have hf := sat_some hf
    exact g_iret B rfl rfl dX6_alikes_140 hf)
  refine lqr2 (Gh := fun σ1 v1_2 v1_3 => Gj K σ1 4 [(0, .ref (kAd K 0)), (1, .int p1), (2, .int v1_2), (3, .int v1_3)] []) ?_ fu σ 0 0 hf
  intro σ1 v1_2 v1_3 hf
  unfold f_X6_alikes_s4 at hf
  refine g_iload_n B dX6_alikes_4 rfl 3 rfl ?_
  refine g_iconst (v := 3) B dX6_alikes_5 (by decide) ?_
  refine g_icmp_ge (tgt := 139) B dX6_alikes_6 (by decide) (fun c3 => ?_) (fun c3 => ?_)
  · have hf := sat_t hf c3
    have hf := sum_r (sat_some hf)
    exact g_sub hf [2] rfl
  · have hf := sat_f hf c3
    refine g_iload_n B dX6_alikes_9 rfl 3 rfl ?_
    refine g_iconst (v := 1) B dX6_alikes_10 (by decide) ?_
    refine g_iadd B dX6_alikes_11 ?_
    refine g_istore B [(0, .ref (kAd K 0)), (1, .int p1), (2, .int v1_2), (3, .int v1_3), (4, .int ((v1_3 + 1)))] dX6_alikes_12 (by decide) [1, 2, 3, 4, 0] rfl ?_
    have hf := sat_cu1 (G := fun σ5 v5_2 => Gj K σ5 133 [(0, .ref (kAd K 0)), (1, .int p1), (2, .int v5_2), (3, .int v1_3)] []) hf (by
      intro σ5 v5_2 hf
      refine g_iinc B (v1_3 + 1) [(0, .ref (kAd K 0)), (1, .int p1), (2, .int v5_2), (3, .int ((v1_3 + 1)))] dX6_alikes_133 3 rfl rfl (by decide) [1, 2, 3, 0] rfl ?_
      refine g_goto (tgt := 4) B dX6_alikes_136 (by decide) ?_
      have hf := sum_l (sat_some hf)
      exact g_sub hf [0, 1, 2, 3] rfl)
    refine lqr2 (Gh := fun σ4 v4_2 v4_4 => Gj K σ4 14 [(0, .ref (kAd K 0)), (1, .int p1), (2, .int v4_2), (3, .int v1_3), (4, .int v4_4)] []) ?_ fu σ1 v1_2 (v1_3 + 1) hf
    intro σ4 v4_2 v4_4 hf
    unfold f_X6_alikes_s14 at hf
    refine g_iload B dX6_alikes_14 4 rfl ?_
    refine g_iconst (v := 3) B dX6_alikes_16 (by decide) ?_
    refine g_icmp_ge (tgt := 133) B dX6_alikes_17 (by decide) (fun c6 => ?_) (fun c6 => ?_)
    · have hf := sat_t hf c6
      have hf := sum_r (sat_some hf)
      exact g_sub hf [0, 1, 2, 3] rfl
    · have hf := sat_f hf c6
      refine g_iconst (v := 0) B dX6_alikes_20 (by decide) ?_
      refine g_istore B [(0, .ref (kAd K 0)), (1, .int p1), (2, .int v4_2), (3, .int v1_3), (4, .int v4_4), (5, .int 0)] dX6_alikes_21 (by decide) [1, 2, 3, 4, 5, 0] rfl ?_
      have hf := sat_cu1 (G := fun σ8 v8_2 => Gj K σ8 127 [(0, .ref (kAd K 0)), (1, .int p1), (2, .int v8_2), (3, .int v1_3), (4, .int v4_4)] []) hf (by
        intro σ8 v8_2 hf
        refine g_iinc B (v4_4 + 1) [(0, .ref (kAd K 0)), (1, .int p1), (2, .int v8_2), (3, .int v1_3), (4, .int ((v4_4 + 1)))] dX6_alikes_127 4 rfl rfl (by decide) [1, 2, 3, 4, 0] rfl ?_
        refine g_goto (tgt := 14) B dX6_alikes_130 (by decide) ?_
        have hf := sum_l (sat_some hf)
        exact g_sub hf [0, 1, 2, 3, 4] rfl)
      refine lqr2 (Gh := fun σ7 v7_2 v7_5 => Gj K σ7 23 [(0, .ref (kAd K 0)), (1, .int p1), (2, .int v7_2), (3, .int v1_3), (4, .int v4_4), (5, .int v7_5)] []) ?_ fu σ4 v4_2 0 hf
      intro σ7 v7_2 v7_5 hf
      unfold f_X6_alikes_s23 at hf
      refine g_iload B dX6_alikes_23 5 rfl ?_
      refine g_aload_n B dX6_alikes_25 rfl 0 rfl ?_
      refine m_get_notes C wf_RX6_13 dX6_alikes_26 ?_
      refine g_iload_n B dX6_alikes_29 rfl 3 rfl ?_
      obtain ⟨h9, hf⟩ := sat_chk hf
      refine m_iald C 1 (by decide) rfl h9 dX6_alikes_30 ?_
      refine g_icmp_ge (tgt := 127) B dX6_alikes_31 (by decide) (fun c10 => ?_) (fun c10 => ?_)
      · have hf := sat_t hf c10
        have hf := sum_r (sat_some hf)
        exact g_sub hf [0, 1, 2, 3, 4] rfl
      · have hf := sat_f hf c10
        refine g_iconst (v := 0) B dX6_alikes_34 (by decide) ?_
        refine g_istore B [(0, .ref (kAd K 0)), (1, .int p1), (2, .int v7_2), (3, .int v1_3), (4, .int v4_4), (5, .int v7_5), (6, .int 0)] dX6_alikes_35 (by decide) [1, 2, 3, 4, 5, 6, 0] rfl ?_
        have hf := sat_cu1 (G := fun σ12 v12_2 => Gj K σ12 121 [(0, .ref (kAd K 0)), (1, .int p1), (2, .int v12_2), (3, .int v1_3), (4, .int v4_4), (5, .int v7_5)] []) hf (by
          intro σ12 v12_2 hf
          refine g_iinc B (v7_5 + 1) [(0, .ref (kAd K 0)), (1, .int p1), (2, .int v12_2), (3, .int v1_3), (4, .int v4_4), (5, .int ((v7_5 + 1)))] dX6_alikes_121 5 rfl rfl (by decide) [1, 2, 3, 4, 5, 0] rfl ?_
          refine g_goto (tgt := 23) B dX6_alikes_124 (by decide) ?_
          have hf := sum_l (sat_some hf)
          exact g_sub hf [0, 1, 2, 3, 4, 5] rfl)
        refine lqr2 (Gh := fun σ11 v11_2 v11_6 => Gj K σ11 37 [(0, .ref (kAd K 0)), (1, .int p1), (2, .int v11_2), (3, .int v1_3), (4, .int v4_4), (5, .int v7_5), (6, .int v11_6)] []) ?_ fu σ7 v7_2 0 hf
        intro σ11 v11_2 v11_6 hf
        unfold f_X6_alikes_s37 at hf
        refine g_iload B dX6_alikes_37 6 rfl ?_
        refine g_aload_n B dX6_alikes_39 rfl 0 rfl ?_
        refine m_get_notes C wf_RX6_13 dX6_alikes_40 ?_
        refine g_iload B dX6_alikes_43 4 rfl ?_
        obtain ⟨h13, hf⟩ := sat_chk hf
        refine m_iald C 1 (by decide) rfl h13 dX6_alikes_45 ?_
        refine g_icmp_ge (tgt := 121) B dX6_alikes_46 (by decide) (fun c14 => ?_) (fun c14 => ?_)
        · have hf := sat_t hf c14
          have hf := sum_r (sat_some hf)
          exact g_sub hf [0, 1, 2, 3, 4, 5] rfl
        · have hf := sat_f hf c14
          refine g_aload_n B dX6_alikes_49 rfl 0 rfl ?_
          refine g_iload_n B dX6_alikes_50 rfl 3 rfl ?_
          refine g_iload B dX6_alikes_51 5 rfl ?_
          refine g_iload B dX6_alikes_53 4 rfl ?_
          refine g_iload B dX6_alikes_55 6 rfl ?_
          obtain ⟨σ15, r15, h15, hf⟩ := sat_ca1 hf
          refine g_cVI (rest := []) B (ck_X6_areAlike C h15) mo_X6_areAlike wm_RX6_135 (by decide) (cM_o C) rfl rfl rfl (Nat.le_of_ble_eq_true rfl) dX6_alikes_57 ?_
          have hf := sat_cu1 (G := fun σ16 w16_0 => Gj K σ16 100 [(0, .ref (kAd K 0)), (1, .int p1), (2, .int v11_2), (3, .int v1_3), (4, .int v4_4), (5, .int v7_5), (6, .int v11_6)] [.int w16_0]) hf (by
            intro σ16 w16_0 hf
            refine g_istore B [(0, .ref (kAd K 0)), (1, .int p1), (2, .int v11_2), (3, .int v1_3), (4, .int v4_4), (5, .int v7_5), (6, .int v11_6), (7, .int w16_0)] dX6_alikes_100 (by decide) [1, 2, 3, 4, 5, 6, 7, 0] rfl ?_
            refine g_iload_n B dX6_alikes_102 rfl 2 rfl ?_
            refine g_iload B dX6_alikes_103 7 rfl ?_
            refine g_if_eq (tgt := 112) B dX6_alikes_105 (by decide) (fun c17 => ?_) (fun c17 => ?_)
            · have hf := sat_t hf c17
              refine g_iconst (v := 0) B dX6_alikes_112 (by decide) ?_
              refine g_iadd B dX6_alikes_113 ?_
              refine g_istore_n B [(0, .ref (kAd K 0)), (1, .int p1), (2, .int ((v11_2 + 0))), (3, .int v1_3), (4, .int v4_4), (5, .int v7_5), (6, .int v11_6), (7, .int w16_0)] dX6_alikes_114 rfl (by decide) [1, 2, 0, 3, 4, 5, 6, 7] rfl ?_
              refine g_iinc B (v11_6 + 1) [(0, .ref (kAd K 0)), (1, .int p1), (2, .int ((v11_2 + 0))), (3, .int v1_3), (4, .int v4_4), (5, .int v7_5), (6, .int ((v11_6 + 1))), (7, .int w16_0)] dX6_alikes_115 6 rfl rfl (by decide) [1, 2, 3, 4, 5, 6, 0, 7] rfl ?_
              refine g_goto (tgt := 37) B dX6_alikes_118 (by decide) ?_
              have hf := sum_l (sat_some hf)
              exact g_sub hf [0, 1, 2, 3, 4, 5, 6] rfl
            · have hf := sat_f hf c17
              refine g_iconst (v := 1) B dX6_alikes_108 (by decide) ?_
              refine g_goto (tgt := 113) B dX6_alikes_109 (by decide) ?_
              refine g_iadd B dX6_alikes_113 ?_
              refine g_istore_n B [(0, .ref (kAd K 0)), (1, .int p1), (2, .int ((v11_2 + 1))), (3, .int v1_3), (4, .int v4_4), (5, .int v7_5), (6, .int v11_6), (7, .int w16_0)] dX6_alikes_114 rfl (by decide) [1, 2, 0, 3, 4, 5, 6, 7] rfl ?_
              refine g_iinc B (v11_6 + 1) [(0, .ref (kAd K 0)), (1, .int p1), (2, .int ((v11_2 + 1))), (3, .int v1_3), (4, .int v4_4), (5, .int v7_5), (6, .int ((v11_6 + 1))), (7, .int w16_0)] dX6_alikes_115 6 rfl rfl (by decide) [1, 2, 3, 4, 5, 6, 0, 7] rfl ?_
              refine g_goto (tgt := 37) B dX6_alikes_118 (by decide) ?_
              have hf := sum_l (sat_some hf)
              exact g_sub hf [0, 1, 2, 3, 4, 5, 6] rfl)
          refine g_if_eq (tgt := 99) B dX6_alikes_60 (by decide) (fun c16 => ?_) (fun c16 => ?_)
          · have hf := sat_t hf c16
            refine g_iconst (v := 0) B dX6_alikes_99 (by decide) ?_
            have hf := sat_some hf
            exact g_sub hf [0, 1, 2, 3, 4, 5, 6] rfl
          · have hf := sat_f hf c16
            refine g_iload_n B dX6_alikes_63 rfl 1 rfl ?_
            refine g_if_eq (tgt := 95) B dX6_alikes_64 (by decide) (fun c18 => ?_) (fun c18 => ?_)
            · have hf := sat_t hf c18
              refine g_iconst (v := 1) B dX6_alikes_95 (by decide) ?_
              refine g_goto (tgt := 100) B dX6_alikes_96 (by decide) ?_
              have hf := sat_some hf
              exact g_sub hf [0, 1, 2, 3, 4, 5, 6] rfl
            · have hf := sat_f hf c18
              refine g_aload_n B dX6_alikes_67 rfl 0 rfl ?_
              refine m_get_ways C wf_RX6_58 dX6_alikes_68 ?_
              refine g_bipush (v := 12) B dX6_alikes_71 (by decide) ?_
              refine g_iload_n B dX6_alikes_73 rfl 3 rfl ?_
              refine g_imul B dX6_alikes_74 ?_
              refine g_iload B dX6_alikes_75 5 rfl ?_
              refine g_iadd B dX6_alikes_77 ?_
              obtain ⟨h19, hf⟩ := sat_chk hf
              refine m_iald C 16 (by decide) rfl h19 dX6_alikes_78 ?_
              refine g_aload_n B dX6_alikes_79 rfl 0 rfl ?_
              refine m_get_ways C wf_RX6_58 dX6_alikes_80 ?_
              refine g_bipush (v := 12) B dX6_alikes_83 (by decide) ?_
              refine g_iload B dX6_alikes_85 4 rfl ?_
              refine g_imul B dX6_alikes_87 ?_
              refine g_iload B dX6_alikes_88 6 rfl ?_
              refine g_iadd B dX6_alikes_90 ?_
              obtain ⟨h20, hf⟩ := sat_chk hf
              refine m_iald C 16 (by decide) rfl h20 dX6_alikes_91 ?_
              refine g_icmp_eq (tgt := 99) B dX6_alikes_92 (by decide) (fun c21 => ?_) (fun c21 => ?_)
              · have hf := sat_t hf c21
                refine g_iconst (v := 0) B dX6_alikes_99 (by decide) ?_
                have hf := sat_some hf
                exact g_sub hf [0, 1, 2, 3, 4, 5, 6] rfl
              · have hf := sat_f hf c21
                refine g_iconst (v := 1) B dX6_alikes_95 (by decide) ?_
                refine g_goto (tgt := 100) B dX6_alikes_96 (by decide) ?_
                have hf := sat_some hf
                exact g_sub hf [0, 1, 2, 3, 4, 5, 6] rfl
theorem c_X6_alikes (l : Launch) (D : va_G) (Ad : Nat → Nat) (cI : ClassId) {σ : Mm} {p1 : Int32} {τ : Mm} {r : Int32} (h : f_X6_alikes σ p1 = some (τ, r)) : CtI l D (tysM cI) (wdM Ad cI) StM yX6_alikes cX6_alikes 8 .int 2 σ [.ref (Ad 0), .int p1] (τ, r) := by
  refine metI (Ad := Ad) (cI := cI) (cP := cI) (cII := cI) (by decide) (Nat.le_of_ble_eq_true rfl) (wdG_ok _ _ _) stOK_M rfl (fun K C G hR => ?_)
  have e : kAd K = Ad := G.2.2.2.2.2.1
  have C2 := cM_of C G
  have h9 := w_X6_alikes C2 σ p1 ⟨_, h, by rw [hR]; exact ⟨rfl, rfl⟩⟩
  rw [e] at h9
  exact h9
theorem ck_X6_alikes {K : Kx} {cc : ByteArray} {own : String} {nL d : Nat} {rty : Option FieldType} (C : CxM K cc own nL d rty) {σ : Mm} {p1 : Int32} {τ : Mm} {r : Int32} (h : f_X6_alikes σ p1 = some (τ, r)) : CtI (kl K) (kD K) (ktys K) (kwf K) (kSt K) yX6_alikes cX6_alikes 8 .int 2 σ [.ref (kAd K 0), .int p1] (τ, r) := cM_eq C (P := fun l D tys wf St => CtI l D tys wf St yX6_alikes cX6_alikes 8 .int 2 σ [.ref (kAd K 0), .int p1] (τ, r)) (c_X6_alikes _ _ _ _ h)
def f_X6_bowAll_s4 (p1 : Int32) (σ1 : Mm) (v1_2 : Int32) (v1_3 : Int32) : Option ((Mm × Int32 × Int32) ⊕ (Mm × Int32)) :=
  (if 3 ≤ v1_3 then some (.inr (σ1, v1_2)) else bn1 (f_X6_makeBows σ1 v1_3 ((p1 >>> (v1_3 &&& 31)) &&& 1)) (fun σ3 r3 => (if 0 ≤ r3 then some (.inl (σ3, (v1_2 + r3), (v1_3 + 1))) else some (.inr (σ3, (-3))))))
def f_X6_bowAll (σ : Mm) (p1 : Int32) : Option (Mm × Int32) :=
  lq2 (f_X6_bowAll_s4 p1) fu σ 0 0
set_option maxHeartbeats 4000000 in
set_option maxRecDepth 100000 in
theorem w_X6_bowAll {K : Kx} (C : CxM K cX6_bowAll RX6 5 5 (some .int)) (σ : Mm) (p1 : Int32) (hf : Sat (f_X6_bowAll σ p1) (fun o => kRt K (some (.int o.2)) o.1)) : Gj K σ 0 [(0, .ref (kAd K 0)), (1, .int p1)] [] := by
  unfold f_X6_bowAll at hf
  have B := C.1
  refine g_iconst (v := 0) B dX6_bowAll_0 (by decide) ?_
  refine g_istore_n B [(0, .ref (kAd K 0)), (1, .int p1), (2, .int 0)] dX6_bowAll_1 rfl (by decide) [1, 2, 0] rfl ?_
  refine g_iconst (v := 0) B dX6_bowAll_2 (by decide) ?_
  refine g_istore_n B [(0, .ref (kAd K 0)), (1, .int p1), (2, .int 0), (3, .int 0)] dX6_bowAll_3 rfl (by decide) [1, 2, 3, 0] rfl ?_
  refine lqr2 (Gh := fun σ1 v1_2 v1_3 => Gj K σ1 4 [(0, .ref (kAd K 0)), (1, .int p1), (2, .int v1_2), (3, .int v1_3)] []) ?_ fu σ 0 0 hf
  intro σ1 v1_2 v1_3 hf
  unfold f_X6_bowAll_s4 at hf
  refine g_iload_n B dX6_bowAll_4 rfl 3 rfl ?_
  refine g_iconst (v := 3) B dX6_bowAll_5 (by decide) ?_
  refine g_icmp_ge (tgt := 40) B dX6_bowAll_6 (by decide) (fun c2 => ?_) (fun c2 => ?_)
  · have hf := sat_t hf c2
    refine g_iload_n B dX6_bowAll_40 rfl 2 rfl ?_
    have hf := sum_r (sat_some hf)
    exact g_iret B rfl rfl dX6_bowAll_41 hf
  · have hf := sat_f hf c2
    refine g_aload_n B dX6_bowAll_9 rfl 0 rfl ?_
    refine g_iload_n B dX6_bowAll_10 rfl 3 rfl ?_
    refine g_iload_n B dX6_bowAll_11 rfl 1 rfl ?_
    refine g_iload_n B dX6_bowAll_12 rfl 3 rfl ?_
    refine g_ishr B dX6_bowAll_13 ?_
    refine g_iconst (v := 1) B dX6_bowAll_14 (by decide) ?_
    refine g_iand B dX6_bowAll_15 ?_
    obtain ⟨σ3, r3, h3, hf⟩ := sat_ca1 hf
    refine g_cVI (rest := []) B (ck_X6_makeBows C h3) mo_X6_makeBows wm_RX6_132 (by decide) (cM_o C) rfl rfl rfl (Nat.le_of_ble_eq_true rfl) dX6_bowAll_16 ?_
    refine g_istore B [(0, .ref (kAd K 0)), (1, .int p1), (2, .int v1_2), (3, .int v1_3), (4, .int r3)] dX6_bowAll_19 (by decide) [1, 2, 3, 4, 0] rfl ?_
    refine g_iload B dX6_bowAll_21 4 rfl ?_
    refine g_if_ge (tgt := 29) B dX6_bowAll_23 (by decide) (fun c4 => ?_) (fun c4 => ?_)
    · have hf := sat_t hf c4
      refine g_iload_n B dX6_bowAll_29 rfl 2 rfl ?_
      refine g_iload B dX6_bowAll_30 4 rfl ?_
      refine g_iadd B dX6_bowAll_32 ?_
      refine g_istore_n B [(0, .ref (kAd K 0)), (1, .int p1), (2, .int ((v1_2 + r3))), (3, .int v1_3), (4, .int r3)] dX6_bowAll_33 rfl (by decide) [1, 2, 0, 3, 4] rfl ?_
      refine g_iinc B (v1_3 + 1) [(0, .ref (kAd K 0)), (1, .int p1), (2, .int ((v1_2 + r3))), (3, .int ((v1_3 + 1))), (4, .int r3)] dX6_bowAll_34 3 rfl rfl (by decide) [1, 2, 3, 0, 4] rfl ?_
      refine g_goto (tgt := 4) B dX6_bowAll_37 (by decide) ?_
      have hf := sum_l (sat_some hf)
      exact g_sub hf [0, 1, 2, 3] rfl
    · have hf := sat_f hf c4
      refine g_bipush (v := (-3)) B dX6_bowAll_26 (by decide) ?_
      have hf := sum_r (sat_some hf)
      exact g_iret B rfl rfl dX6_bowAll_28 hf
theorem c_X6_bowAll (l : Launch) (D : va_G) (Ad : Nat → Nat) (cI : ClassId) {σ : Mm} {p1 : Int32} {τ : Mm} {r : Int32} (h : f_X6_bowAll σ p1 = some (τ, r)) : CtI l D (tysM cI) (wdM Ad cI) StM yX6_bowAll cX6_bowAll 5 .int 5 σ [.ref (Ad 0), .int p1] (τ, r) := by
  refine metI (Ad := Ad) (cI := cI) (cP := cI) (cII := cI) (by decide) (Nat.le_of_ble_eq_true rfl) (wdG_ok _ _ _) stOK_M rfl (fun K C G hR => ?_)
  have e : kAd K = Ad := G.2.2.2.2.2.1
  have C2 := cM_of C G
  have h9 := w_X6_bowAll C2 σ p1 ⟨_, h, by rw [hR]; exact ⟨rfl, rfl⟩⟩
  rw [e] at h9
  exact h9
theorem ck_X6_bowAll {K : Kx} {cc : ByteArray} {own : String} {nL d : Nat} {rty : Option FieldType} (C : CxM K cc own nL d rty) {σ : Mm} {p1 : Int32} {τ : Mm} {r : Int32} (h : f_X6_bowAll σ p1 = some (τ, r)) : CtI (kl K) (kD K) (ktys K) (kwf K) (kSt K) yX6_bowAll cX6_bowAll 5 .int 5 σ [.ref (kAd K 0), .int p1] (τ, r) := cM_eq C (P := fun l D tys wf St => CtI l D tys wf St yX6_bowAll cX6_bowAll 5 .int 5 σ [.ref (kAd K 0), .int p1] (τ, r)) (c_X6_bowAll _ _ _ _ h)
def f_X6_union_s19 (σ3 : Mm) (v3_2 : Int32) (v3_3 : Int32) (v3_4 : Int32) : Option ((Mm × Int32 × Int32 × Int32) ⊕ (Mm × Int32 × Int32)) :=
  (if 8 ≤ v3_4 then some (.inr (σ3, v3_2, v3_3)) else bn1 (f_X6_bowAll σ3 v3_4) (fun σ11 r11 => bn1 ((if 0 ≤ r11 then bn1 (f_X6_alikes σ11 1) (fun σ14 r14 => some (σ14, (r11 + (4 * r14)))) else some (σ11, 1000000)) : Option (Mm × Int32)) (fun σ12 w12_0 => (if v3_2 ≤ w12_0 then some (.inl (σ12, v3_2, v3_3, (v3_4 + 1))) else some (.inl (σ12, w12_0, v3_4, (v3_4 + 1)))))))
def f_X6_union (σ : Mm) (p1 : Int32) : Option (Mm × Int32) :=
  bn1 (f_X6_in σ p1 0 2) (fun σ1 r1 => (if r1 = 0 then some (σ1, (-1)) else bn2 (lq3 f_X6_union_s19 fu σ1 1000000 0 0) (fun σ4 v4_2 v4_3 => (if 2 ≤ p1 then bn1 (f_X6_bowAll σ4 v4_3) (fun σ6 r6 => (if 0 ≤ r6 then bn1 (f_X6_alikes σ6 1) (fun σ8 r8 => some (σ8, r8)) else some (σ6, 0))) else (if p1 = 0 then some (σ4, v4_3) else some (σ4, v4_2))))))
set_option maxHeartbeats 4000000 in
set_option maxRecDepth 100000 in
theorem w_X6_union {K : Kx} (C : CxM K cX6_union RX6 7 6 (some .int)) (σ : Mm) (p1 : Int32) (hf : Sat (f_X6_union σ p1) (fun o => kRt K (some (.int o.2)) o.1)) : Gj K σ 0 [(0, .ref (kAd K 0)), (1, .int p1)] [] := by
  unfold f_X6_union at hf
  have B := C.1
  refine g_iload_n B dX6_union_0 rfl 1 rfl ?_
  refine g_iconst (v := 0) B dX6_union_1 (by decide) ?_
  refine g_iconst (v := 2) B dX6_union_2 (by decide) ?_
  obtain ⟨σ1, r1, h1, hf⟩ := sat_ca1 hf
  refine g_cSI (rest := []) B (ck_X6_in C h1) mo_X6_in wm_RX6_61 (by decide) rfl rfl (Nat.le_of_ble_eq_true rfl) dX6_union_3 ?_
  refine g_if_ne (tgt := 11) B dX6_union_6 (by decide) (fun c2 => ?_) (fun c2 => ?_)
  · have hf := sat_f hf c2
    refine g_ldc B wk_RX6_111 dX6_union_11 ?_
    refine g_istore_n B [(0, .ref (kAd K 0)), (1, .int p1), (2, .int 1000000)] dX6_union_13 rfl (by decide) [1, 2, 0] rfl ?_
    refine g_iconst (v := 0) B dX6_union_14 (by decide) ?_
    refine g_istore_n B [(0, .ref (kAd K 0)), (1, .int p1), (2, .int 1000000), (3, .int 0)] dX6_union_15 rfl (by decide) [1, 2, 3, 0] rfl ?_
    refine g_iconst (v := 0) B dX6_union_16 (by decide) ?_
    refine g_istore B [(0, .ref (kAd K 0)), (1, .int p1), (2, .int 1000000), (3, .int 0), (4, .int 0)] dX6_union_17 (by decide) [1, 2, 3, 4, 0] rfl ?_
    have hf := sat_cu2 (G := fun σ4 v4_2 v4_3 => Gj K σ4 74 [(0, .ref (kAd K 0)), (1, .int p1), (2, .int v4_2), (3, .int v4_3)] []) hf (by
      intro σ4 v4_2 v4_3 hf
      refine g_iload_n B dX6_union_74 rfl 1 rfl ?_
      refine g_iconst (v := 2) B dX6_union_75 (by decide) ?_
      refine g_icmp_ge (tgt := 89) B dX6_union_76 (by decide) (fun c5 => ?_) (fun c5 => ?_)
      · have hf := sat_t hf c5
        refine g_aload_n B dX6_union_89 rfl 0 rfl ?_
        refine g_iload_n B dX6_union_90 rfl 3 rfl ?_
        obtain ⟨σ6, r6, h6, hf⟩ := sat_ca1 hf
        refine g_cVI (rest := []) B (ck_X6_bowAll C h6) mo_X6_bowAll wm_RX6_139 (by decide) (cM_o C) rfl rfl rfl (Nat.le_of_ble_eq_true rfl) dX6_union_91 ?_
        refine g_istore B [(0, .ref (kAd K 0)), (1, .int p1), (2, .int v4_2), (3, .int v4_3), (4, .int r6)] dX6_union_94 (by decide) [1, 2, 3, 4, 0] rfl ?_
        refine g_iload B dX6_union_96 4 rfl ?_
        refine g_if_ge (tgt := 105) B dX6_union_98 (by decide) (fun c7 => ?_) (fun c7 => ?_)
        · have hf := sat_t hf c7
          refine g_aload_n B dX6_union_105 rfl 0 rfl ?_
          refine g_iconst (v := 1) B dX6_union_106 (by decide) ?_
          obtain ⟨σ8, r8, h8, hf⟩ := sat_ca1 hf
          refine g_cVI (rest := []) B (ck_X6_alikes C h8) mo_X6_alikes wm_RX6_142 (by decide) (cM_o C) rfl rfl rfl (Nat.le_of_ble_eq_true rfl) dX6_union_107 ?_
          have hf := sat_some hf
          exact g_iret B rfl rfl dX6_union_110 hf
        · have hf := sat_f hf c7
          refine g_iconst (v := 0) B dX6_union_101 (by decide) ?_
          refine g_goto (tgt := 110) B dX6_union_102 (by decide) ?_
          have hf := sat_some hf
          exact g_iret B rfl rfl dX6_union_110 hf
      · have hf := sat_f hf c5
        refine g_iload_n B dX6_union_79 rfl 1 rfl ?_
        refine g_if_ne (tgt := 87) B dX6_union_80 (by decide) (fun c9 => ?_) (fun c9 => ?_)
        · have hf := sat_f hf c9
          refine g_iload_n B dX6_union_87 rfl 2 rfl ?_
          have hf := sat_some hf
          exact g_iret B rfl rfl dX6_union_88 hf
        · have hf := sat_t hf c9
          refine g_iload_n B dX6_union_83 rfl 3 rfl ?_
          refine g_goto (tgt := 88) B dX6_union_84 (by decide) ?_
          have hf := sat_some hf
          exact g_iret B rfl rfl dX6_union_88 hf)
    refine lqr3 (Gh := fun σ3 v3_2 v3_3 v3_4 => Gj K σ3 19 [(0, .ref (kAd K 0)), (1, .int p1), (2, .int v3_2), (3, .int v3_3), (4, .int v3_4)] []) ?_ fu σ1 1000000 0 0 hf
    intro σ3 v3_2 v3_3 v3_4 hf
    unfold f_X6_union_s19 at hf
    refine g_iload B dX6_union_19 4 rfl ?_
    refine g_bipush (v := 8) B dX6_union_21 (by decide) ?_
    refine g_icmp_ge (tgt := 74) B dX6_union_23 (by decide) (fun c10 => ?_) (fun c10 => ?_)
    · have hf := sat_t hf c10
      have hf := sum_r (sat_some hf)
      exact g_sub hf [0, 1, 2, 3] rfl
    · have hf := sat_f hf c10
      refine g_aload_n B dX6_union_26 rfl 0 rfl ?_
      refine g_iload B dX6_union_27 4 rfl ?_
      obtain ⟨σ11, r11, h11, hf⟩ := sat_ca1 hf
      refine g_cVI (rest := []) B (ck_X6_bowAll C h11) mo_X6_bowAll wm_RX6_139 (by decide) (cM_o C) rfl rfl rfl (Nat.le_of_ble_eq_true rfl) dX6_union_29 ?_
      refine g_istore B [(0, .ref (kAd K 0)), (1, .int p1), (2, .int v3_2), (3, .int v3_3), (4, .int v3_4), (5, .int r11)] dX6_union_32 (by decide) [1, 2, 3, 4, 5, 0] rfl ?_
      refine g_iload B dX6_union_34 5 rfl ?_
      have hf := sat_cu1 (G := fun σ12 w12_0 => Gj K σ12 54 [(0, .ref (kAd K 0)), (1, .int p1), (2, .int v3_2), (3, .int v3_3), (4, .int v3_4)] [.int w12_0]) hf (by
        intro σ12 w12_0 hf
        refine g_istore B [(0, .ref (kAd K 0)), (1, .int p1), (2, .int v3_2), (3, .int v3_3), (4, .int v3_4), (6, .int w12_0)] dX6_union_54 (by decide) [1, 2, 3, 4, 5, 0] rfl ?_
        refine g_iload B dX6_union_56 5 rfl ?_
        refine g_iload_n B dX6_union_58 rfl 2 rfl ?_
        refine g_icmp_ge (tgt := 68) B dX6_union_59 (by decide) (fun c13 => ?_) (fun c13 => ?_)
        · have hf := sat_t hf c13
          refine g_iinc B (v3_4 + 1) [(0, .ref (kAd K 0)), (1, .int p1), (2, .int v3_2), (3, .int v3_3), (4, .int ((v3_4 + 1))), (6, .int w12_0)] dX6_union_68 4 rfl rfl (by decide) [1, 2, 3, 4, 0, 5] rfl ?_
          refine g_goto (tgt := 19) B dX6_union_71 (by decide) ?_
          have hf := sum_l (sat_some hf)
          exact g_sub hf [0, 1, 2, 3, 4] rfl
        · have hf := sat_f hf c13
          refine g_iload B dX6_union_62 5 rfl ?_
          refine g_istore_n B [(0, .ref (kAd K 0)), (1, .int p1), (2, .int w12_0), (3, .int v3_3), (4, .int v3_4), (6, .int w12_0)] dX6_union_64 rfl (by decide) [1, 2, 0, 3, 4, 5] rfl ?_
          refine g_iload B dX6_union_65 4 rfl ?_
          refine g_istore_n B [(0, .ref (kAd K 0)), (1, .int p1), (2, .int w12_0), (3, .int v3_4), (4, .int v3_4), (6, .int w12_0)] dX6_union_67 rfl (by decide) [1, 2, 3, 0, 4, 5] rfl ?_
          refine g_iinc B (v3_4 + 1) [(0, .ref (kAd K 0)), (1, .int p1), (2, .int w12_0), (3, .int v3_4), (4, .int ((v3_4 + 1))), (6, .int w12_0)] dX6_union_68 4 rfl rfl (by decide) [1, 2, 3, 4, 0, 5] rfl ?_
          refine g_goto (tgt := 19) B dX6_union_71 (by decide) ?_
          have hf := sum_l (sat_some hf)
          exact g_sub hf [0, 1, 2, 3, 4] rfl)
      refine g_if_ge (tgt := 44) B dX6_union_36 (by decide) (fun c12 => ?_) (fun c12 => ?_)
      · have hf := sat_t hf c12
        refine g_iload B dX6_union_44 5 rfl ?_
        refine g_iconst (v := 4) B dX6_union_46 (by decide) ?_
        refine g_aload_n B dX6_union_47 rfl 0 rfl ?_
        refine g_iconst (v := 1) B dX6_union_48 (by decide) ?_
        obtain ⟨σ14, r14, h14, hf⟩ := sat_ca1 hf
        refine g_cVI (rest := [.int 4, .int r11]) B (ck_X6_alikes C h14) mo_X6_alikes wm_RX6_142 (by decide) (cM_o C) rfl rfl rfl (Nat.le_of_ble_eq_true rfl) dX6_union_49 ?_
        refine g_imul B dX6_union_52 ?_
        refine g_iadd B dX6_union_53 ?_
        have hf := sat_some hf
        exact g_sub hf [0, 1, 2, 3, 4] rfl
      · have hf := sat_f hf c12
        refine g_ldc B wk_RX6_111 dX6_union_39 ?_
        refine g_goto (tgt := 54) B dX6_union_41 (by decide) ?_
        have hf := sat_some hf
        exact g_sub hf [0, 1, 2, 3, 4] rfl
  · have hf := sat_t hf c2
    refine g_iconst (v := (-1)) B dX6_union_9 (by decide) ?_
    have hf := sat_some hf
    exact g_iret B rfl rfl dX6_union_10 hf
theorem c_X6_union (l : Launch) (D : va_G) (Ad : Nat → Nat) (cI : ClassId) {σ : Mm} {p1 : Int32} {τ : Mm} {r : Int32} (h : f_X6_union σ p1 = some (τ, r)) : CtI l D (tysM cI) (wdM Ad cI) StM yX6_union cX6_union 7 .int 6 σ [.ref (Ad 0), .int p1] (τ, r) := by
  refine metI (Ad := Ad) (cI := cI) (cP := cI) (cII := cI) (by decide) (Nat.le_of_ble_eq_true rfl) (wdG_ok _ _ _) stOK_M rfl (fun K C G hR => ?_)
  have e : kAd K = Ad := G.2.2.2.2.2.1
  have C2 := cM_of C G
  have h9 := w_X6_union C2 σ p1 ⟨_, h, by rw [hR]; exact ⟨rfl, rfl⟩⟩
  rw [e] at h9
  exact h9
theorem ck_X6_union {K : Kx} {cc : ByteArray} {own : String} {nL d : Nat} {rty : Option FieldType} (C : CxM K cc own nL d rty) {σ : Mm} {p1 : Int32} {τ : Mm} {r : Int32} (h : f_X6_union σ p1 = some (τ, r)) : CtI (kl K) (kD K) (ktys K) (kwf K) (kSt K) yX6_union cX6_union 7 .int 6 σ [.ref (kAd K 0), .int p1] (τ, r) := cM_eq C (P := fun l D tys wf St => CtI l D tys wf St yX6_union cX6_union 7 .int 6 σ [.ref (kAd K 0), .int p1] (τ, r)) (c_X6_union _ _ _ _ h)
def f_X6_notesThat_s12 (v1_3 : Int32) (p1 : Int32) (σ4 : Mm) (v4_2 : Int32) (v4_4 : Int32) : Option ((Mm × Int32 × Int32) ⊕ (Mm × Int32)) :=
  chk (inb v1_3 3) ((if (σ4 2 v1_3.toNatClampNeg) ≤ v4_4 then some (.inr (σ4, v4_2)) else bn1 ((if p1 = 0 then bn1 (f_X6_is σ4 v1_3 v4_4 2) (fun σ10 r10 => some (σ10, r10)) else chk (inb ((12 * v1_3) + v4_4) 36) ((if (σ4 4 ((12 * v1_3) + v4_4).toNatClampNeg) < 0 then some (σ4, 0) else some (σ4, 1)))) : Option (Mm × Int32)) (fun σ8 w8_0 => (if w8_0 = 0 then some (.inl (σ8, (v4_2 + 0), (v4_4 + 1))) else some (.inl (σ8, (v4_2 + 1), (v4_4 + 1)))))))
def f_X6_notesThat_s4 (p1 : Int32) (σ1 : Mm) (v1_2 : Int32) (v1_3 : Int32) : Option ((Mm × Int32 × Int32) ⊕ (Mm × Int32)) :=
  (if 3 ≤ v1_3 then some (.inr (σ1, v1_2)) else bn1 (lq2 (f_X6_notesThat_s12 v1_3 p1) fu σ1 v1_2 0) (fun σ5 v5_2 => some (.inl (σ5, v5_2, (v1_3 + 1)))))
def f_X6_notesThat (σ : Mm) (p1 : Int32) : Option (Mm × Int32) :=
  bn1 (lq2 (f_X6_notesThat_s4 p1) fu σ 0 0) (fun σ2 v2_2 => some (σ2, v2_2))
set_option maxHeartbeats 4000000 in
set_option maxRecDepth 100000 in
theorem w_X6_notesThat {K : Kx} (C : CxM K cX6_notesThat RX6 6 2 (some .int)) (σ : Mm) (p1 : Int32) (hf : Sat (f_X6_notesThat σ p1) (fun o => kRt K (some (.int o.2)) o.1)) : Gj K σ 0 [(0, .ref (kAd K 0)), (1, .int p1)] [] := by
  unfold f_X6_notesThat at hf
  have B := C.1
  refine g_iconst (v := 0) B dX6_notesThat_0 (by decide) ?_
  refine g_istore_n B [(0, .ref (kAd K 0)), (1, .int p1), (2, .int 0)] dX6_notesThat_1 rfl (by decide) [1, 2, 0] rfl ?_
  refine g_iconst (v := 0) B dX6_notesThat_2 (by decide) ?_
  refine g_istore_n B [(0, .ref (kAd K 0)), (1, .int p1), (2, .int 0), (3, .int 0)] dX6_notesThat_3 rfl (by decide) [1, 2, 3, 0] rfl ?_
  have hf := sat_cu1 (G := fun σ2 v2_2 => Gj K σ2 85 [(2, .int v2_2)] []) hf (by
    intro σ2 v2_2 hf
    refine g_iload_n B dX6_notesThat_85 rfl 0 rfl ?_
    have hf := sat_some hf
    exact g_iret B rfl rfl dX6_notesThat_86 hf)
  refine lqr2 (Gh := fun σ1 v1_2 v1_3 => Gj K σ1 4 [(0, .ref (kAd K 0)), (1, .int p1), (2, .int v1_2), (3, .int v1_3)] []) ?_ fu σ 0 0 hf
  intro σ1 v1_2 v1_3 hf
  unfold f_X6_notesThat_s4 at hf
  refine g_iload_n B dX6_notesThat_4 rfl 3 rfl ?_
  refine g_iconst (v := 3) B dX6_notesThat_5 (by decide) ?_
  refine g_icmp_ge (tgt := 85) B dX6_notesThat_6 (by decide) (fun c3 => ?_) (fun c3 => ?_)
  · have hf := sat_t hf c3
    have hf := sum_r (sat_some hf)
    exact g_sub hf [2] rfl
  · have hf := sat_f hf c3
    refine g_iconst (v := 0) B dX6_notesThat_9 (by decide) ?_
    refine g_istore B [(0, .ref (kAd K 0)), (1, .int p1), (2, .int v1_2), (3, .int v1_3), (4, .int 0)] dX6_notesThat_10 (by decide) [1, 2, 3, 4, 0] rfl ?_
    have hf := sat_cu1 (G := fun σ5 v5_2 => Gj K σ5 79 [(0, .ref (kAd K 0)), (1, .int p1), (2, .int v5_2), (3, .int v1_3)] []) hf (by
      intro σ5 v5_2 hf
      refine g_iinc B (v1_3 + 1) [(0, .ref (kAd K 0)), (1, .int p1), (2, .int v5_2), (3, .int ((v1_3 + 1)))] dX6_notesThat_79 3 rfl rfl (by decide) [1, 2, 3, 0] rfl ?_
      refine g_goto (tgt := 4) B dX6_notesThat_82 (by decide) ?_
      have hf := sum_l (sat_some hf)
      exact g_sub hf [0, 1, 2, 3] rfl)
    refine lqr2 (Gh := fun σ4 v4_2 v4_4 => Gj K σ4 12 [(0, .ref (kAd K 0)), (1, .int p1), (2, .int v4_2), (3, .int v1_3), (4, .int v4_4)] []) ?_ fu σ1 v1_2 0 hf
    intro σ4 v4_2 v4_4 hf
    unfold f_X6_notesThat_s12 at hf
    refine g_iload B dX6_notesThat_12 4 rfl ?_
    refine g_aload_n B dX6_notesThat_14 rfl 0 rfl ?_
    refine m_get_notes C wf_RX6_13 dX6_notesThat_15 ?_
    refine g_iload_n B dX6_notesThat_18 rfl 3 rfl ?_
    obtain ⟨h6, hf⟩ := sat_chk hf
    refine m_iald C 1 (by decide) rfl h6 dX6_notesThat_19 ?_
    refine g_icmp_ge (tgt := 79) B dX6_notesThat_20 (by decide) (fun c7 => ?_) (fun c7 => ?_)
    · have hf := sat_t hf c7
      have hf := sum_r (sat_some hf)
      exact g_sub hf [0, 1, 2, 3] rfl
    · have hf := sat_f hf c7
      refine g_iload_n B dX6_notesThat_23 rfl 1 rfl ?_
      have hf := sat_cu1 (G := fun σ8 w8_0 => Gj K σ8 58 [(0, .ref (kAd K 0)), (1, .int p1), (2, .int v4_2), (3, .int v1_3), (4, .int v4_4)] [.int w8_0]) hf (by
        intro σ8 w8_0 hf
        refine g_istore B [(0, .ref (kAd K 0)), (1, .int p1), (2, .int v4_2), (3, .int v1_3), (4, .int v4_4), (5, .int w8_0)] dX6_notesThat_58 (by decide) [1, 2, 3, 4, 5, 0] rfl ?_
        refine g_iload_n B dX6_notesThat_60 rfl 2 rfl ?_
        refine g_iload B dX6_notesThat_61 5 rfl ?_
        refine g_if_eq (tgt := 70) B dX6_notesThat_63 (by decide) (fun c9 => ?_) (fun c9 => ?_)
        · have hf := sat_t hf c9
          refine g_iconst (v := 0) B dX6_notesThat_70 (by decide) ?_
          refine g_iadd B dX6_notesThat_71 ?_
          refine g_istore_n B [(0, .ref (kAd K 0)), (1, .int p1), (2, .int ((v4_2 + 0))), (3, .int v1_3), (4, .int v4_4), (5, .int w8_0)] dX6_notesThat_72 rfl (by decide) [1, 2, 0, 3, 4, 5] rfl ?_
          refine g_iinc B (v4_4 + 1) [(0, .ref (kAd K 0)), (1, .int p1), (2, .int ((v4_2 + 0))), (3, .int v1_3), (4, .int ((v4_4 + 1))), (5, .int w8_0)] dX6_notesThat_73 4 rfl rfl (by decide) [1, 2, 3, 4, 0, 5] rfl ?_
          refine g_goto (tgt := 12) B dX6_notesThat_76 (by decide) ?_
          have hf := sum_l (sat_some hf)
          exact g_sub hf [0, 1, 2, 3, 4] rfl
        · have hf := sat_f hf c9
          refine g_iconst (v := 1) B dX6_notesThat_66 (by decide) ?_
          refine g_goto (tgt := 71) B dX6_notesThat_67 (by decide) ?_
          refine g_iadd B dX6_notesThat_71 ?_
          refine g_istore_n B [(0, .ref (kAd K 0)), (1, .int p1), (2, .int ((v4_2 + 1))), (3, .int v1_3), (4, .int v4_4), (5, .int w8_0)] dX6_notesThat_72 rfl (by decide) [1, 2, 0, 3, 4, 5] rfl ?_
          refine g_iinc B (v4_4 + 1) [(0, .ref (kAd K 0)), (1, .int p1), (2, .int ((v4_2 + 1))), (3, .int v1_3), (4, .int ((v4_4 + 1))), (5, .int w8_0)] dX6_notesThat_73 4 rfl rfl (by decide) [1, 2, 3, 4, 0, 5] rfl ?_
          refine g_goto (tgt := 12) B dX6_notesThat_76 (by decide) ?_
          have hf := sum_l (sat_some hf)
          exact g_sub hf [0, 1, 2, 3, 4] rfl)
      refine g_if_eq (tgt := 50) B dX6_notesThat_24 (by decide) (fun c8 => ?_) (fun c8 => ?_)
      · have hf := sat_t hf c8
        refine g_aload_n B dX6_notesThat_50 rfl 0 rfl ?_
        refine g_iload_n B dX6_notesThat_51 rfl 3 rfl ?_
        refine g_iload B dX6_notesThat_52 4 rfl ?_
        refine g_iconst (v := 2) B dX6_notesThat_54 (by decide) ?_
        obtain ⟨σ10, r10, h10, hf⟩ := sat_ca1 hf
        refine g_cVI (rest := []) B (ck_X6_is C h10) mo_X6_is wm_RX6_108 (by decide) (cM_o C) rfl rfl rfl (Nat.le_of_ble_eq_true rfl) dX6_notesThat_55 ?_
        have hf := sat_some hf
        exact g_sub hf [0, 1, 2, 3, 4] rfl
      · have hf := sat_f hf c8
        refine g_aload_n B dX6_notesThat_27 rfl 0 rfl ?_
        refine m_get_second C wf_RX6_19 dX6_notesThat_28 ?_
        refine g_bipush (v := 12) B dX6_notesThat_31 (by decide) ?_
        refine g_iload_n B dX6_notesThat_33 rfl 3 rfl ?_
        refine g_imul B dX6_notesThat_34 ?_
        refine g_iload B dX6_notesThat_35 4 rfl ?_
        refine g_iadd B dX6_notesThat_37 ?_
        obtain ⟨h11, hf⟩ := sat_chk hf
        refine m_iald C 3 (by decide) rfl h11 dX6_notesThat_38 ?_
        refine g_if_lt (tgt := 46) B dX6_notesThat_39 (by decide) (fun c12 => ?_) (fun c12 => ?_)
        · have hf := sat_t hf c12
          refine g_iconst (v := 0) B dX6_notesThat_46 (by decide) ?_
          refine g_goto (tgt := 58) B dX6_notesThat_47 (by decide) ?_
          have hf := sat_some hf
          exact g_sub hf [0, 1, 2, 3, 4] rfl
        · have hf := sat_f hf c12
          refine g_iconst (v := 1) B dX6_notesThat_42 (by decide) ?_
          refine g_goto (tgt := 58) B dX6_notesThat_43 (by decide) ?_
          have hf := sat_some hf
          exact g_sub hf [0, 1, 2, 3, 4] rfl
theorem c_X6_notesThat (l : Launch) (D : va_G) (Ad : Nat → Nat) (cI : ClassId) {σ : Mm} {p1 : Int32} {τ : Mm} {r : Int32} (h : f_X6_notesThat σ p1 = some (τ, r)) : CtI l D (tysM cI) (wdM Ad cI) StM yX6_notesThat cX6_notesThat 6 .int 2 σ [.ref (Ad 0), .int p1] (τ, r) := by
  refine metI (Ad := Ad) (cI := cI) (cP := cI) (cII := cI) (by decide) (Nat.le_of_ble_eq_true rfl) (wdG_ok _ _ _) stOK_M rfl (fun K C G hR => ?_)
  have e : kAd K = Ad := G.2.2.2.2.2.1
  have C2 := cM_of C G
  have h9 := w_X6_notesThat C2 σ p1 ⟨_, h, by rw [hR]; exact ⟨rfl, rfl⟩⟩
  rw [e] at h9
  exact h9
theorem ck_X6_notesThat {K : Kx} {cc : ByteArray} {own : String} {nL d : Nat} {rty : Option FieldType} (C : CxM K cc own nL d rty) {σ : Mm} {p1 : Int32} {τ : Mm} {r : Int32} (h : f_X6_notesThat σ p1 = some (τ, r)) : CtI (kl K) (kD K) (ktys K) (kwf K) (kSt K) yX6_notesThat cX6_notesThat 6 .int 2 σ [.ref (kAd K 0), .int p1] (τ, r) := cM_eq C (P := fun l D tys wf St => CtI l D tys wf St yX6_notesThat cX6_notesThat 6 .int 2 σ [.ref (kAd K 0), .int p1] (τ, r)) (c_X6_notesThat _ _ _ _ h)
