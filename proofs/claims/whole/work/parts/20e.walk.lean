def f_X1_leastNext_s10 (p2 : Int32) (k1a : Nat) (p3 : Int32) (σ1 : Mm) (v1_4 : Int32) (v1_5 : Int32) (v1_6 : Int32) : Option ((Mm × Int32 × Int32 × Int32) ⊕ (Mm × Int32)) :=
  chk (inC 5 p2) ((if (σ1 5 p2.toNatClampNeg) ≤ v1_6 then some (.inr (σ1, v1_5)) else chk (inb p2 12) (chk (inC (19 + p2.toNatClampNeg) v1_6) (chk (inb p2 12) (chk (inC (7 + p2.toNatClampNeg) v1_6) (chk (kdC k1a == 2) (chk (inC (k1a + 5) p2) (bn1 (f_X1_stepCost σ1 p3 (σ1 (7 + p2.toNatClampNeg) v1_6.toNatClampNeg) (σ1 (k1a + 5) p2.toNatClampNeg)) (fun σ11 r11 => (if v1_4 ≤ ((σ1 (19 + p2.toNatClampNeg) v1_6.toNatClampNeg) + r11) then some (.inl (σ11, v1_4, v1_5, (v1_6 + 1))) else chk (inb p2 12) (chk (inC (7 + p2.toNatClampNeg) v1_6) (some (.inl (σ11, ((σ1 (19 + p2.toNatClampNeg) v1_6.toNatClampNeg) + r11), (σ11 (7 + p2.toNatClampNeg) v1_6.toNatClampNeg), (v1_6 + 1)))))))))))))))
def f_X1_leastNext (σ : Mm) (k1a : Nat) (p2 : Int32) (p3 : Int32) : Option (Mm × Int32) :=
  bn1 (lq3 (f_X1_leastNext_s10 p2 k1a p3) fu σ 1000000 0 0) (fun σ2 v2_5 => some (σ2, v2_5))
set_option maxHeartbeats 4000000 in
set_option maxRecDepth 100000 in
theorem w_X1_leastNext {K : Kx} (C : CxC K cX1_leastNext RX1 8 3 (some .int)) (σ : Mm) (k1a : Nat) (p2 : Int32) (p3 : Int32) (hf : Sat (f_X1_leastNext σ k1a p2 p3) (fun o => kRt K (some (.int o.2)) o.1)) : Gj K σ 0 [(0, .ref (kAd K 3)), (1, .ref (kAd K k1a)), (2, .int p2), (3, .int p3)] [] := by
  unfold f_X1_leastNext at hf
  have B := C.1
  refine g_ldc B wk_RX1_84 dX1_leastNext_0 ?_
  refine g_istore B [(0, .ref (kAd K 3)), (1, .ref (kAd K k1a)), (2, .int p2), (3, .int p3), (4, .int 1000000)] dX1_leastNext_2 (by decide) [1, 2, 3, 4, 0] rfl ?_
  refine g_iconst (v := 0) B dX1_leastNext_4 (by decide) ?_
  refine g_istore B [(0, .ref (kAd K 3)), (1, .ref (kAd K k1a)), (2, .int p2), (3, .int p3), (4, .int 1000000), (5, .int 0)] dX1_leastNext_5 (by decide) [1, 2, 3, 4, 5, 0] rfl ?_
  refine g_iconst (v := 0) B dX1_leastNext_7 (by decide) ?_
  refine g_istore B [(0, .ref (kAd K 3)), (1, .ref (kAd K k1a)), (2, .int p2), (3, .int p3), (4, .int 1000000), (5, .int 0), (6, .int 0)] dX1_leastNext_8 (by decide) [1, 2, 3, 4, 5, 6, 0] rfl ?_
  have hf := sat_cu1 (G := fun σ2 v2_5 => Gj K σ2 80 [(5, .int v2_5)] []) hf (by
    intro σ2 v2_5 hf
    refine g_iload B dX1_leastNext_80 0 rfl ?_
    have hf := sat_some hf
    exact g_iret B rfl rfl dX1_leastNext_82 hf)
  refine lqr3 (Gh := fun σ1 v1_4 v1_5 v1_6 => Gj K σ1 10 [(0, .ref (kAd K 3)), (1, .ref (kAd K k1a)), (2, .int p2), (3, .int p3), (4, .int v1_4), (5, .int v1_5), (6, .int v1_6)] []) ?_ fu σ 1000000 0 0 hf
  intro σ1 v1_4 v1_5 v1_6 hf
  unfold f_X1_leastNext_s10 at hf
  refine g_iload B dX1_leastNext_10 6 rfl ?_
  refine g_aload_n B dX1_leastNext_12 rfl 0 rfl ?_
  refine c_get_D_counts C wf_RX1_16 dX1_leastNext_13 ?_
  refine g_iload_n B dX1_leastNext_16 rfl 2 rfl ?_
  obtain ⟨h3, hf⟩ := sat_chk hf
  refine c_iald C h3 dX1_leastNext_17 ?_
  refine g_icmp_ge (tgt := 80) B dX1_leastNext_18 (by decide) (fun c4 => ?_) (fun c4 => ?_)
  · have hf := sat_t hf c4
    have hf := sum_r (sat_some hf)
    exact g_sub hf [5] rfl
  · have hf := sat_f hf c4
    refine g_aload_n B dX1_leastNext_21 rfl 0 rfl ?_
    refine c_get_D_costs C wf_RX1_20 dX1_leastNext_22 ?_
    refine g_iload_n B dX1_leastNext_25 rfl 2 rfl ?_
    obtain ⟨h5, hf⟩ := sat_chk hf
    refine c_aald6 C h5 dX1_leastNext_26 ?_
    refine g_iload B dX1_leastNext_27 6 rfl ?_
    obtain ⟨h6, hf⟩ := sat_chk hf
    refine c_iald C h6 dX1_leastNext_29 ?_
    refine g_iload_n B dX1_leastNext_30 rfl 3 rfl ?_
    refine g_aload_n B dX1_leastNext_31 rfl 0 rfl ?_
    refine c_get_D_keys C wf_RX1_13 dX1_leastNext_32 ?_
    refine g_iload_n B dX1_leastNext_35 rfl 2 rfl ?_
    obtain ⟨h7, hf⟩ := sat_chk hf
    refine c_aald4 C h7 dX1_leastNext_36 ?_
    refine g_iload B dX1_leastNext_37 6 rfl ?_
    obtain ⟨h8, hf⟩ := sat_chk hf
    refine c_iald C h8 dX1_leastNext_39 ?_
    refine g_aload_n B dX1_leastNext_40 rfl 1 rfl ?_
    obtain ⟨h9, hf⟩ := sat_chk hf
    refine c_get_P_marks C (eq_of_beq h9) wf_RX1_91 dX1_leastNext_41 ?_
    refine g_iload_n B dX1_leastNext_44 rfl 2 rfl ?_
    obtain ⟨h10, hf⟩ := sat_chk hf
    refine c_iald C h10 dX1_leastNext_45 ?_
    obtain ⟨σ11, r11, h11, hf⟩ := sat_ca1 hf
    refine g_cSI (rest := [.int ((σ1 (19 + p2.toNatClampNeg) v1_6.toNatClampNeg))]) B (ck_X1_stepCost C h11) mo_X1_stepCost wm_RX1_94 (by decide) rfl rfl (Nat.le_of_ble_eq_true rfl) dX1_leastNext_46 ?_
    refine g_iadd B dX1_leastNext_49 ?_
    refine g_istore B [(0, .ref (kAd K 3)), (1, .ref (kAd K k1a)), (2, .int p2), (3, .int p3), (4, .int v1_4), (5, .int v1_5), (6, .int v1_6), (7, .int (((σ1 (19 + p2.toNatClampNeg) v1_6.toNatClampNeg) + r11)))] dX1_leastNext_50 (by decide) [1, 2, 3, 4, 5, 6, 7, 0] rfl ?_
    refine g_iload B dX1_leastNext_52 7 rfl ?_
    refine g_iload B dX1_leastNext_54 4 rfl ?_
    refine g_icmp_ge (tgt := 74) B dX1_leastNext_56 (by decide) (fun c12 => ?_) (fun c12 => ?_)
    · have hf := sat_t hf c12
      refine g_iinc B (v1_6 + 1) [(0, .ref (kAd K 3)), (1, .ref (kAd K k1a)), (2, .int p2), (3, .int p3), (4, .int v1_4), (5, .int v1_5), (6, .int ((v1_6 + 1))), (7, .int (((σ1 (19 + p2.toNatClampNeg) v1_6.toNatClampNeg) + r11)))] dX1_leastNext_74 6 rfl rfl (by decide) [1, 2, 3, 4, 5, 6, 0, 7] rfl ?_
      refine g_goto (tgt := 10) B dX1_leastNext_77 (by decide) ?_
      have hf := sum_l (sat_some hf)
      exact g_sub hf [0, 1, 2, 3, 4, 5, 6] rfl
    · have hf := sat_f hf c12
      refine g_iload B dX1_leastNext_59 7 rfl ?_
      refine g_istore B [(0, .ref (kAd K 3)), (1, .ref (kAd K k1a)), (2, .int p2), (3, .int p3), (4, .int (((σ1 (19 + p2.toNatClampNeg) v1_6.toNatClampNeg) + r11))), (5, .int v1_5), (6, .int v1_6), (7, .int (((σ1 (19 + p2.toNatClampNeg) v1_6.toNatClampNeg) + r11)))] dX1_leastNext_61 (by decide) [1, 2, 3, 4, 0, 5, 6, 7] rfl ?_
      refine g_aload_n B dX1_leastNext_63 rfl 0 rfl ?_
      refine c_get_D_keys C wf_RX1_13 dX1_leastNext_64 ?_
      refine g_iload_n B dX1_leastNext_67 rfl 2 rfl ?_
      obtain ⟨h13, hf⟩ := sat_chk hf
      refine c_aald4 C h13 dX1_leastNext_68 ?_
      refine g_iload B dX1_leastNext_69 6 rfl ?_
      obtain ⟨h14, hf⟩ := sat_chk hf
      refine c_iald C h14 dX1_leastNext_71 ?_
      refine g_istore B [(0, .ref (kAd K 3)), (1, .ref (kAd K k1a)), (2, .int p2), (3, .int p3), (4, .int (((σ1 (19 + p2.toNatClampNeg) v1_6.toNatClampNeg) + r11))), (5, .int ((σ11 (7 + p2.toNatClampNeg) v1_6.toNatClampNeg))), (6, .int v1_6), (7, .int (((σ1 (19 + p2.toNatClampNeg) v1_6.toNatClampNeg) + r11)))] dX1_leastNext_72 (by decide) [1, 2, 3, 4, 5, 0, 6, 7] rfl ?_
      refine g_iinc B (v1_6 + 1) [(0, .ref (kAd K 3)), (1, .ref (kAd K k1a)), (2, .int p2), (3, .int p3), (4, .int (((σ1 (19 + p2.toNatClampNeg) v1_6.toNatClampNeg) + r11))), (5, .int ((σ11 (7 + p2.toNatClampNeg) v1_6.toNatClampNeg))), (6, .int ((v1_6 + 1))), (7, .int (((σ1 (19 + p2.toNatClampNeg) v1_6.toNatClampNeg) + r11)))] dX1_leastNext_74 6 rfl rfl (by decide) [1, 2, 3, 4, 5, 6, 0, 7] rfl ?_
      refine g_goto (tgt := 10) B dX1_leastNext_77 (by decide) ?_
      have hf := sum_l (sat_some hf)
      exact g_sub hf [0, 1, 2, 3, 4, 5, 6] rfl
theorem c_X1_leastNext (l : Launch) (D : va_G) (Ad : Nat → Nat) (cI cP cII : ClassId) {σ : Mm} {k1a : Nat} {p2 : Int32} {p3 : Int32} {τ : Mm} {r : Int32} (h : f_X1_leastNext σ k1a p2 p3 = some (τ, r)) : CtI l D (tysC cI cP cII) (wdC Ad cI cP cII) StC yX1_leastNext cX1_leastNext 8 .int 3 σ [.ref (Ad 3), .ref (Ad k1a), .int p2, .int p3] (τ, r) := by
  refine metI (Ad := Ad) (cI := cI) (cP := cP) (cII := cII) (by decide) (Nat.le_of_ble_eq_true rfl) (wdG_ok _ _ _) stOK_C rfl (fun K C G hR => ?_)
  have e : kAd K = Ad := G.2.2.2.2.2.1
  have C2 := cC_of C G
  have h9 := w_X1_leastNext C2 σ k1a p2 p3 ⟨_, h, by rw [hR]; exact ⟨rfl, rfl⟩⟩
  rw [e] at h9
  exact h9
theorem ck_X1_leastNext {K : Kx} {cc : ByteArray} {own : String} {nL d : Nat} {rty : Option FieldType} (C : CxC K cc own nL d rty) {σ : Mm} {k1a : Nat} {p2 : Int32} {p3 : Int32} {τ : Mm} {r : Int32} (h : f_X1_leastNext σ k1a p2 p3 = some (τ, r)) : CtI (kl K) (kD K) (ktys K) (kwf K) (kSt K) yX1_leastNext cX1_leastNext 8 .int 3 σ [.ref (kAd K 3), .ref (kAd K k1a), .int p2, .int p3] (τ, r) := cC_eq C (P := fun l D tys wf St => CtI l D tys wf St yX1_leastNext cX1_leastNext 8 .int 3 σ [.ref (kAd K 3), .ref (kAd K k1a), .int p2, .int p3] (τ, r)) (c_X1_leastNext _ _ _ _ _ _ h)
def f_X1_findFingering_s107 (k2a : Nat) (σ10 : Mm) (v10_4 : Int32) : Option ((Mm × Int32) ⊕ (Mm)) :=
  (if (σ10 k2a 0) ≤ v10_4 then some (.inr σ10) else chk (inC (k2a + 6) (v10_4 - 1)) (bn1 (f_X1_leastNext σ10 k2a v10_4 (σ10 (k2a + 6) (v10_4 - 1).toNatClampNeg)) (fun σ16 r16 => chk (inC (k2a + 6) v10_4) (nm (ms σ16 (k2a + 6) v10_4.toNatClampNeg r16) (fun σ17 => some (.inl (σ17, (v10_4 + 1))))))))
def f_X1_findFingering_s31 (v3_3 : Int32) (k2a : Nat) (σ20 : Mm) (v20_4 : Int32) : Option ((Mm × Int32) ⊕ (Mm)) :=
  chk (inC 5 v3_3) ((if (σ20 5 v3_3.toNatClampNeg) ≤ v20_4 then some (.inr σ20) else chk (inb v3_3 12) (chk (inb v3_3 12) (chk (inC (7 + v3_3.toNatClampNeg) v20_4) (bn1 (f_X1_costFrom σ20 k2a v3_3 (σ20 (7 + v3_3.toNatClampNeg) v20_4.toNatClampNeg)) (fun σ27 r27 => chk (inC (19 + v3_3.toNatClampNeg) v20_4) (nm (ms σ27 (19 + v3_3.toNatClampNeg) v20_4.toNatClampNeg r27) (fun σ28 => some (.inl (σ28, (v20_4 + 1)))))))))))
def f_X1_findFingering_s16 (k1a : Nat) (k2a : Nat) (σ3 : Mm) (v3_3 : Int32) : Option ((Mm × Int32) ⊕ (Mm)) :=
  (if v3_3 < 0 then some (.inr σ3) else bn1 (f_X1_listHolds σ3 k1a k2a v3_3) (fun σ19 r19 => bn0 (lq1 (f_X1_findFingering_s31 v3_3 k2a) fu σ19 0) (fun σ21 => some (.inl (σ21, (v3_3 + (-1)))))))
def f_X1_findFingering (σ : Mm) (k1a : Nat) (k2a : Nat) : Option (Mm × Int32) :=
  chk (kdC k2a == 2) ((if 0 < (σ k2a 0) then bn0 (lq1 (f_X1_findFingering_s16 k1a k2a) fu σ ((σ k2a 0) - 1)) (fun σ4 => bn1 (f_X1_leastFirst σ4) (fun σ5 r5 => (if 0 ≤ r5 then chk (inb 0 12) (chk (inC (7 + (0 : Int32).toNatClampNeg) r5) (chk (inC (k2a + 6) 0) (nm (ms σ5 (k2a + 6) (0 : Int32).toNatClampNeg (σ5 (7 + (0 : Int32).toNatClampNeg) r5.toNatClampNeg)) (fun σ9 => bn0 (lq1 (f_X1_findFingering_s107 k2a) fu σ9 1) (fun σ11 => chk (inb 0 12) (chk (inC (19 + (0 : Int32).toNatClampNeg) r5) (some (σ11, (σ11 (19 + (0 : Int32).toNatClampNeg) r5.toNatClampNeg))))))))) else some (σ5, 1000000)))) else some (σ, 0)))
set_option maxHeartbeats 4000000 in
set_option maxRecDepth 100000 in
theorem w_X1_findFingering {K : Kx} (C : CxC K cX1_findFingering RX1 5 4 (some .int)) (σ : Mm) (k1a : Nat) (k2a : Nat) (hf : Sat (f_X1_findFingering σ k1a k2a) (fun o => kRt K (some (.int o.2)) o.1)) : Gj K σ 0 [(0, .ref (kAd K 3)), (1, .ref (kAd K k1a)), (2, .ref (kAd K k2a))] [] := by
  unfold f_X1_findFingering at hf
  have B := C.1
  refine g_aload_n B dX1_findFingering_0 rfl 2 rfl ?_
  obtain ⟨h1, hf⟩ := sat_chk hf
  refine c_get_P_count C (eq_of_beq h1) wf_RX1_68 dX1_findFingering_1 ?_
  refine g_if_gt (tgt := 9) B dX1_findFingering_4 (by decide) (fun c2 => ?_) (fun c2 => ?_)
  · have hf := sat_t hf c2
    refine g_aload_n B dX1_findFingering_9 rfl 2 rfl ?_
    refine c_get_P_count C (eq_of_beq h1) wf_RX1_68 dX1_findFingering_10 ?_
    refine g_iconst (v := 1) B dX1_findFingering_13 (by decide) ?_
    refine g_isub B dX1_findFingering_14 ?_
    refine g_istore_n B [(0, .ref (kAd K 3)), (1, .ref (kAd K k1a)), (2, .ref (kAd K k2a)), (3, .int (((σ k2a 0) - 1)))] dX1_findFingering_15 rfl (by decide) [1, 2, 3, 0] rfl ?_
    have hf := sat_cu0 (G := fun σ4 => Gj K σ4 78 [(0, .ref (kAd K 3)), (2, .ref (kAd K k2a))] []) hf (by
      intro σ4 hf
      refine g_aload_n B dX1_findFingering_78 rfl 0 rfl ?_
      obtain ⟨σ5, r5, h5, hf⟩ := sat_ca1 hf
      refine g_cVI (rest := []) B (ck_X1_leastFirst C h5) mo_X1_leastFirst wm_RX1_80 (by decide) (cC_o1 C) rfl rfl rfl (Nat.le_of_ble_eq_true rfl) dX1_findFingering_79 ?_
      refine g_istore_n B [(0, .ref (kAd K 3)), (2, .ref (kAd K k2a)), (3, .int r5)] dX1_findFingering_82 rfl (by decide) [1, 2, 0] rfl ?_
      refine g_iload_n B dX1_findFingering_83 rfl 2 rfl ?_
      refine g_if_ge (tgt := 90) B dX1_findFingering_84 (by decide) (fun c6 => ?_) (fun c6 => ?_)
      · have hf := sat_t hf c6
        refine g_aload_n B dX1_findFingering_90 rfl 1 rfl ?_
        refine c_get_P_fingering C (eq_of_beq h1) wf_RX1_85 dX1_findFingering_91 ?_
        refine g_iconst (v := 0) B dX1_findFingering_94 (by decide) ?_
        refine g_aload_n B dX1_findFingering_95 rfl 0 rfl ?_
        refine c_get_D_keys C wf_RX1_13 dX1_findFingering_96 ?_
        refine g_iconst (v := 0) B dX1_findFingering_99 (by decide) ?_
        obtain ⟨h7, hf⟩ := sat_chk hf
        refine c_aald4 C h7 dX1_findFingering_100 ?_
        refine g_iload_n B dX1_findFingering_101 rfl 2 rfl ?_
        obtain ⟨h8, hf⟩ := sat_chk hf
        refine c_iald C h8 dX1_findFingering_102 ?_
        obtain ⟨h9, hf⟩ := sat_chk hf
        obtain ⟨σ9, e9, hf⟩ := sat_nm hf
        refine c_iast C h9 dX1_findFingering_103 (g_mem2 e9 ?_)
        refine g_iconst (v := 1) B dX1_findFingering_104 (by decide) ?_
        refine g_istore B [(0, .ref (kAd K 3)), (2, .ref (kAd K k2a)), (3, .int r5), (4, .int 1)] dX1_findFingering_105 (by decide) [1, 2, 3, 0] rfl ?_
        have hf := sat_cu0 (G := fun σ11 => Gj K σ11 145 [(0, .ref (kAd K 3)), (3, .int r5)] []) hf (by
          intro σ11 hf
          refine g_aload_n B dX1_findFingering_145 rfl 0 rfl ?_
          refine c_get_D_costs C wf_RX1_20 dX1_findFingering_146 ?_
          refine g_iconst (v := 0) B dX1_findFingering_149 (by decide) ?_
          obtain ⟨h12, hf⟩ := sat_chk hf
          refine c_aald6 C h12 dX1_findFingering_150 ?_
          refine g_iload_n B dX1_findFingering_151 rfl 1 rfl ?_
          obtain ⟨h13, hf⟩ := sat_chk hf
          refine c_iald C h13 dX1_findFingering_152 ?_
          have hf := sat_some hf
          exact g_iret B rfl rfl dX1_findFingering_153 hf)
        refine lqr1 (Gh := fun σ10 v10_4 => Gj K σ10 107 [(0, .ref (kAd K 3)), (2, .ref (kAd K k2a)), (3, .int r5), (4, .int v10_4)] []) ?_ fu σ9 1 hf
        intro σ10 v10_4 hf
        unfold f_X1_findFingering_s107 at hf
        refine g_iload B dX1_findFingering_107 3 rfl ?_
        refine g_aload_n B dX1_findFingering_109 rfl 1 rfl ?_
        refine c_get_P_count C (eq_of_beq h1) wf_RX1_68 dX1_findFingering_110 ?_
        refine g_icmp_ge (tgt := 145) B dX1_findFingering_113 (by decide) (fun c14 => ?_) (fun c14 => ?_)
        · have hf := sat_t hf c14
          have hf := sum_r (sat_some hf)
          exact g_sub hf [0, 2] rfl
        · have hf := sat_f hf c14
          refine g_aload_n B dX1_findFingering_116 rfl 1 rfl ?_
          refine c_get_P_fingering C (eq_of_beq h1) wf_RX1_85 dX1_findFingering_117 ?_
          refine g_iload B dX1_findFingering_120 3 rfl ?_
          refine g_aload_n B dX1_findFingering_122 rfl 0 rfl ?_
          refine g_aload_n B dX1_findFingering_123 rfl 1 rfl ?_
          refine g_iload B dX1_findFingering_124 3 rfl ?_
          refine g_aload_n B dX1_findFingering_126 rfl 1 rfl ?_
          refine c_get_P_fingering C (eq_of_beq h1) wf_RX1_85 dX1_findFingering_127 ?_
          refine g_iload B dX1_findFingering_130 3 rfl ?_
          refine g_iconst (v := 1) B dX1_findFingering_132 (by decide) ?_
          refine g_isub B dX1_findFingering_133 ?_
          obtain ⟨h15, hf⟩ := sat_chk hf
          refine c_iald C h15 dX1_findFingering_134 ?_
          obtain ⟨σ16, r16, h16, hf⟩ := sat_ca1 hf
          refine g_cVI (rest := [.int v10_4, .ref (kAd K ((k2a + 6)))]) B (ck_X1_leastNext C h16) mo_X1_leastNext wm_RX1_88 (by decide) (cC_o1 C) rfl rfl rfl (Nat.le_of_ble_eq_true rfl) dX1_findFingering_135 ?_
          obtain ⟨h17, hf⟩ := sat_chk hf
          obtain ⟨σ17, e17, hf⟩ := sat_nm hf
          refine c_iast C h17 dX1_findFingering_138 (g_mem2 e17 ?_)
          refine g_iinc B (v10_4 + 1) [(0, .ref (kAd K 3)), (2, .ref (kAd K k2a)), (3, .int r5), (4, .int ((v10_4 + 1)))] dX1_findFingering_139 3 rfl rfl (by decide) [1, 2, 3, 0] rfl ?_
          refine g_goto (tgt := 107) B dX1_findFingering_142 (by decide) ?_
          have hf := sum_l (sat_some hf)
          exact g_sub hf [0, 1, 2, 3] rfl
      · have hf := sat_f hf c6
        refine g_ldc B wk_RX1_84 dX1_findFingering_87 ?_
        have hf := sat_some hf
        exact g_iret B rfl rfl dX1_findFingering_89 hf)
    refine lqr1 (Gh := fun σ3 v3_3 => Gj K σ3 16 [(0, .ref (kAd K 3)), (1, .ref (kAd K k1a)), (2, .ref (kAd K k2a)), (3, .int v3_3)] []) ?_ fu σ ((σ k2a 0) - 1) hf
    intro σ3 v3_3 hf
    unfold f_X1_findFingering_s16 at hf
    refine g_iload_n B dX1_findFingering_16 rfl 3 rfl ?_
    refine g_if_lt (tgt := 78) B dX1_findFingering_17 (by decide) (fun c18 => ?_) (fun c18 => ?_)
    · have hf := sat_t hf c18
      have hf := sum_r (sat_some hf)
      exact g_sub hf [0, 2] rfl
    · have hf := sat_f hf c18
      refine g_aload_n B dX1_findFingering_20 rfl 0 rfl ?_
      refine g_aload_n B dX1_findFingering_21 rfl 1 rfl ?_
      refine g_aload_n B dX1_findFingering_22 rfl 2 rfl ?_
      refine g_iload_n B dX1_findFingering_23 rfl 3 rfl ?_
      obtain ⟨σ19, r19, h19, hf⟩ := sat_ca1 hf
      refine g_cVI (rest := []) B (ck_X1_listHolds C h19) mo_X1_listHolds wm_RX1_72 (by decide) (cC_o1 C) rfl rfl rfl (Nat.le_of_ble_eq_true rfl) dX1_findFingering_24 ?_
      refine g_pop B rfl dX1_findFingering_27 ?_
      refine g_iconst (v := 0) B dX1_findFingering_28 (by decide) ?_
      refine g_istore B [(0, .ref (kAd K 3)), (1, .ref (kAd K k1a)), (2, .ref (kAd K k2a)), (3, .int v3_3), (4, .int 0)] dX1_findFingering_29 (by decide) [1, 2, 3, 4, 0] rfl ?_
      have hf := sat_cu0 (G := fun σ21 => Gj K σ21 72 [(0, .ref (kAd K 3)), (1, .ref (kAd K k1a)), (2, .ref (kAd K k2a)), (3, .int v3_3)] []) hf (by
        intro σ21 hf
        refine g_iinc B (v3_3 + (-1)) [(0, .ref (kAd K 3)), (1, .ref (kAd K k1a)), (2, .ref (kAd K k2a)), (3, .int ((v3_3 + (-1))))] dX1_findFingering_72 3 rfl rfl (by decide) [1, 2, 3, 0] rfl ?_
        refine g_goto (tgt := 16) B dX1_findFingering_75 (by decide) ?_
        have hf := sum_l (sat_some hf)
        exact g_sub hf [0, 1, 2, 3] rfl)
      refine lqr1 (Gh := fun σ20 v20_4 => Gj K σ20 31 [(0, .ref (kAd K 3)), (1, .ref (kAd K k1a)), (2, .ref (kAd K k2a)), (3, .int v3_3), (4, .int v20_4)] []) ?_ fu σ19 0 hf
      intro σ20 v20_4 hf
      unfold f_X1_findFingering_s31 at hf
      refine g_iload B dX1_findFingering_31 4 rfl ?_
      refine g_aload_n B dX1_findFingering_33 rfl 0 rfl ?_
      refine c_get_D_counts C wf_RX1_16 dX1_findFingering_34 ?_
      refine g_iload_n B dX1_findFingering_37 rfl 3 rfl ?_
      obtain ⟨h22, hf⟩ := sat_chk hf
      refine c_iald C h22 dX1_findFingering_38 ?_
      refine g_icmp_ge (tgt := 72) B dX1_findFingering_39 (by decide) (fun c23 => ?_) (fun c23 => ?_)
      · have hf := sat_t hf c23
        have hf := sum_r (sat_some hf)
        exact g_sub hf [0, 1, 2, 3] rfl
      · have hf := sat_f hf c23
        refine g_aload_n B dX1_findFingering_42 rfl 0 rfl ?_
        refine c_get_D_costs C wf_RX1_20 dX1_findFingering_43 ?_
        refine g_iload_n B dX1_findFingering_46 rfl 3 rfl ?_
        obtain ⟨h24, hf⟩ := sat_chk hf
        refine c_aald6 C h24 dX1_findFingering_47 ?_
        refine g_iload B dX1_findFingering_48 4 rfl ?_
        refine g_aload_n B dX1_findFingering_50 rfl 0 rfl ?_
        refine g_aload_n B dX1_findFingering_51 rfl 2 rfl ?_
        refine g_iload_n B dX1_findFingering_52 rfl 3 rfl ?_
        refine g_aload_n B dX1_findFingering_53 rfl 0 rfl ?_
        refine c_get_D_keys C wf_RX1_13 dX1_findFingering_54 ?_
        refine g_iload_n B dX1_findFingering_57 rfl 3 rfl ?_
        obtain ⟨h25, hf⟩ := sat_chk hf
        refine c_aald4 C h25 dX1_findFingering_58 ?_
        refine g_iload B dX1_findFingering_59 4 rfl ?_
        obtain ⟨h26, hf⟩ := sat_chk hf
        refine c_iald C h26 dX1_findFingering_61 ?_
        obtain ⟨σ27, r27, h27, hf⟩ := sat_ca1 hf
        refine g_cVI (rest := [.int v20_4, .ref (kAd K ((19 + v3_3.toNatClampNeg)))]) B (ck_X1_costFrom C h27) mo_X1_costFrom wm_RX1_76 (by decide) (cC_o1 C) rfl rfl rfl (Nat.le_of_ble_eq_true rfl) dX1_findFingering_62 ?_
        obtain ⟨h28, hf⟩ := sat_chk hf
        obtain ⟨σ28, e28, hf⟩ := sat_nm hf
        refine c_iast C h28 dX1_findFingering_65 (g_mem2 e28 ?_)
        refine g_iinc B (v20_4 + 1) [(0, .ref (kAd K 3)), (1, .ref (kAd K k1a)), (2, .ref (kAd K k2a)), (3, .int v3_3), (4, .int ((v20_4 + 1)))] dX1_findFingering_66 4 rfl rfl (by decide) [1, 2, 3, 4, 0] rfl ?_
        refine g_goto (tgt := 31) B dX1_findFingering_69 (by decide) ?_
        have hf := sum_l (sat_some hf)
        exact g_sub hf [0, 1, 2, 3, 4] rfl
  · have hf := sat_f hf c2
    refine g_iconst (v := 0) B dX1_findFingering_7 (by decide) ?_
    have hf := sat_some hf
    exact g_iret B rfl rfl dX1_findFingering_8 hf
theorem c_X1_findFingering (l : Launch) (D : va_G) (Ad : Nat → Nat) (cI cP cII : ClassId) {σ : Mm} {k1a : Nat} {k2a : Nat} {τ : Mm} {r : Int32} (h : f_X1_findFingering σ k1a k2a = some (τ, r)) : CtI l D (tysC cI cP cII) (wdC Ad cI cP cII) StC yX1_findFingering cX1_findFingering 5 .int 4 σ [.ref (Ad 3), .ref (Ad k1a), .ref (Ad k2a)] (τ, r) := by
  refine metI (Ad := Ad) (cI := cI) (cP := cP) (cII := cII) (by decide) (Nat.le_of_ble_eq_true rfl) (wdG_ok _ _ _) stOK_C rfl (fun K C G hR => ?_)
  have e : kAd K = Ad := G.2.2.2.2.2.1
  have C2 := cC_of C G
  have h9 := w_X1_findFingering C2 σ k1a k2a ⟨_, h, by rw [hR]; exact ⟨rfl, rfl⟩⟩
  rw [e] at h9
  exact h9
theorem ck_X1_findFingering {K : Kx} {cc : ByteArray} {own : String} {nL d : Nat} {rty : Option FieldType} (C : CxC K cc own nL d rty) {σ : Mm} {k1a : Nat} {k2a : Nat} {τ : Mm} {r : Int32} (h : f_X1_findFingering σ k1a k2a = some (τ, r)) : CtI (kl K) (kD K) (ktys K) (kwf K) (kSt K) yX1_findFingering cX1_findFingering 5 .int 4 σ [.ref (kAd K 3), .ref (kAd K k1a), .ref (kAd K k2a)] (τ, r) := cC_eq C (P := fun l D tys wf St => CtI l D tys wf St yX1_findFingering cX1_findFingering 5 .int 4 σ [.ref (kAd K 3), .ref (kAd K k1a), .ref (kAd K k2a)] (τ, r)) (c_X1_findFingering _ _ _ _ _ _ h)
def f_X5_hasFingering (σ : Mm) (k1a : Nat) : Option (Mm × Int32) :=
  chk (kdC k1a == 2) (bn0 ((if (σ k1a 2) = 0 then bn1 (f_X1_findFingering σ 1 k1a) (fun σ4 r4 => nm (ms σ4 k1a 1 r4) (fun σ5 => nm (ms σ5 k1a 2 1) (fun σ6 => some σ6))) else some σ) : Option (Mm)) (fun σ2 => (if 1000000 ≤ (σ2 k1a 1) then some (σ2, 0) else some (σ2, 1))))
set_option maxHeartbeats 4000000 in
set_option maxRecDepth 100000 in
theorem w_X5_hasFingering {K : Kx} (C : CxC K cX5_hasFingering RX5 2 5 (some .boolean)) (σ : Mm) (k1a : Nat) (hf : Sat (f_X5_hasFingering σ k1a) (fun o => kRt K (some (.int o.2)) o.1)) : Gj K σ 0 [(0, .ref (kAd K 0)), (1, .ref (kAd K k1a))] [] := by
  unfold f_X5_hasFingering at hf
  have B := C.1
  refine g_aload_n B dX5_hasFingering_0 rfl 1 rfl ?_
  obtain ⟨h1, hf⟩ := sat_chk hf
  refine c_get_P_isFingered C (eq_of_beq h1) wf_RX5_31 dX5_hasFingering_1 ?_
  have hf := sat_cu0 (G := fun σ2 => Gj K σ2 28 [(1, .ref (kAd K k1a))] []) hf (by
    intro σ2 hf
    refine g_aload_n B dX5_hasFingering_28 rfl 0 rfl ?_
    refine c_get_P_fingeringCost C (eq_of_beq h1) wf_RX5_92 dX5_hasFingering_29 ?_
    refine g_ldc B wk_RX5_182 dX5_hasFingering_32 ?_
    refine g_icmp_ge (tgt := 41) B dX5_hasFingering_34 (by decide) (fun c3 => ?_) (fun c3 => ?_)
    · have hf := sat_t hf c3
      refine g_iconst (v := 0) B dX5_hasFingering_41 (by decide) ?_
      have hf := sat_some hf
      exact g_iret B rfl rfl dX5_hasFingering_42 hf
    · have hf := sat_f hf c3
      refine g_iconst (v := 1) B dX5_hasFingering_37 (by decide) ?_
      refine g_goto (tgt := 42) B dX5_hasFingering_38 (by decide) ?_
      have hf := sat_some hf
      exact g_iret B rfl rfl dX5_hasFingering_42 hf)
  refine g_if_ne (tgt := 28) B dX5_hasFingering_4 (by decide) (fun c2 => ?_) (fun c2 => ?_)
  · have hf := sat_f hf c2
    have hf := sat_some hf
    exact g_sub hf [1] rfl
  · have hf := sat_t hf c2
    refine g_aload_n B dX5_hasFingering_7 rfl 1 rfl ?_
    refine g_aload_n B dX5_hasFingering_8 rfl 0 rfl ?_
    refine c_get_F_desk C wf_RX5_23 dX5_hasFingering_9 ?_
    refine g_aload_n B dX5_hasFingering_12 rfl 0 rfl ?_
    refine c_get_F_open C wf_RX5_7 dX5_hasFingering_13 ?_
    refine g_aload_n B dX5_hasFingering_16 rfl 1 rfl ?_
    obtain ⟨σ4, r4, h4, hf⟩ := sat_ca1 hf
    refine g_cVI (rest := [.ref (kAd K k1a)]) B (ck_X1_findFingering C h4) mo_X1_findFingering wm_RX5_178 (by decide) (cC_o1 C) rfl rfl rfl (Nat.le_of_ble_eq_true rfl) dX5_hasFingering_17 ?_
    obtain ⟨σ5, e5, hf⟩ := sat_nm hf
    refine c_put_P_fingeringCost C (eq_of_beq h1) wf_RX5_92 dX5_hasFingering_20 (g_mem2 e5 ?_)
    refine g_aload_n B dX5_hasFingering_23 rfl 1 rfl ?_
    refine g_iconst (v := 1) B dX5_hasFingering_24 (by decide) ?_
    obtain ⟨σ6, e6, hf⟩ := sat_nm hf
    refine c_put_P_isFingered C (eq_of_beq h1) rfl rfl wf_RX5_31 dX5_hasFingering_25 (g_mem2 e6 ?_)
    have hf := sat_some hf
    exact g_sub hf [1] rfl
theorem c_X5_hasFingering (l : Launch) (D : va_G) (Ad : Nat → Nat) (cI cP cII : ClassId) {σ : Mm} {k1a : Nat} {τ : Mm} {r : Int32} (h : f_X5_hasFingering σ k1a = some (τ, r)) : CtI l D (tysC cI cP cII) (wdC Ad cI cP cII) StC yX5_hasFingering cX5_hasFingering 2 .boolean 5 σ [.ref (Ad 0), .ref (Ad k1a)] (τ, r) := by
  refine metI (Ad := Ad) (cI := cI) (cP := cP) (cII := cII) (by decide) (Nat.le_of_ble_eq_true rfl) (wdG_ok _ _ _) stOK_C rfl (fun K C G hR => ?_)
  have e : kAd K = Ad := G.2.2.2.2.2.1
  have C2 := cC_of C G
  have h9 := w_X5_hasFingering C2 σ k1a ⟨_, h, by rw [hR]; exact ⟨rfl, rfl⟩⟩
  rw [e] at h9
  exact h9
theorem ck_X5_hasFingering {K : Kx} {cc : ByteArray} {own : String} {nL d : Nat} {rty : Option FieldType} (C : CxC K cc own nL d rty) {σ : Mm} {k1a : Nat} {τ : Mm} {r : Int32} (h : f_X5_hasFingering σ k1a = some (τ, r)) : CtI (kl K) (kD K) (ktys K) (kwf K) (kSt K) yX5_hasFingering cX5_hasFingering 2 .boolean 5 σ [.ref (kAd K 0), .ref (kAd K k1a)] (τ, r) := cC_eq C (P := fun l D tys wf St => CtI l D tys wf St yX5_hasFingering cX5_hasFingering 2 .boolean 5 σ [.ref (kAd K 0), .ref (kAd K k1a)] (τ, r)) (c_X5_hasFingering _ _ _ _ _ _ h)
def f_X5_hard (σ : Mm) (p1 : Int32) : Option (Mm × Int32) :=
  bn1 (f_X5_partAt σ p1) (fun σ1 r1 => onul r1 (some (σ1, (-1))) (fun k1 => bn1 (f_X5_hasFingering σ1 k1) (fun σ2 r2 => (if r2 = 0 then some (σ2, (-3)) else chk (kdC k1 == 2) (some (σ2, (σ2 k1 1)))))))
set_option maxHeartbeats 4000000 in
set_option maxRecDepth 100000 in
theorem w_X5_hard {K : Kx} (C : CxC K cX5_hard RX5 3 6 (some .int)) (σ : Mm) (p1 : Int32) (hf : Sat (f_X5_hard σ p1) (fun o => kRt K (some (.int o.2)) o.1)) : Gj K σ 0 [(0, .ref (kAd K 0)), (1, .int p1)] [] := by
  unfold f_X5_hard at hf
  have B := C.1
  refine g_aload_n B dX5_hard_0 rfl 0 rfl ?_
  refine g_iload_n B dX5_hard_1 rfl 1 rfl ?_
  obtain ⟨σ1, r1, h1, hf⟩ := sat_ca1 hf
  refine g_cVA (rest := []) B (ck_X5_partAt C h1) mo_X5_partAt wm_RX5_35 (by decide) (cC_o3 C) rfl rfl rfl (Nat.le_of_ble_eq_true rfl) dX5_hard_2 ?_
  cases r1 with
  | none =>
    have hf := sat_on0 hf
    show Gj K σ1 5 [(0, .ref (kAd K 0)), (1, .int p1)] [.null]
    refine g_astore_nN B [(0, .ref (kAd K 0)), (1, .int p1), (2, .null)] dX5_hard_5 rfl (by decide) [1, 2, 0] rfl ?_
    refine g_aload_nN B dX5_hard_6 rfl 2 rfl ?_
    refine g_ifnonnullN B dX5_hard_7 ?_
    refine g_iconst (v := (-1)) B dX5_hard_10 (by decide) ?_
    have hf := sat_some hf
    exact g_iret B rfl rfl dX5_hard_11 hf
  | some k1 =>
    have hf := sat_on1 hf
    show Gj K σ1 5 [(0, .ref (kAd K 0)), (1, .int p1)] [.ref (kAd K k1)]
    refine g_astore_n B [(0, .ref (kAd K 0)), (1, .int p1), (2, .ref (kAd K k1))] dX5_hard_5 rfl (by decide) [1, 2, 0] rfl ?_
    refine g_aload_n B dX5_hard_6 rfl 2 rfl ?_
    refine g_ifnonnull (tgt := 12) B dX5_hard_7 (by decide) ?_
    refine g_aload_n B dX5_hard_12 rfl 0 rfl ?_
    refine g_aload_n B dX5_hard_13 rfl 2 rfl ?_
    obtain ⟨σ2, r2, h2, hf⟩ := sat_ca1 hf
    refine g_cVI (rest := []) B (ck_X5_hasFingering C h2) mo_X5_hasFingering wm_RX5_88 (by decide) (cC_o3 C) rfl rfl rfl (Nat.le_of_ble_eq_true rfl) dX5_hard_14 ?_
    refine g_if_eq (tgt := 27) B dX5_hard_17 (by decide) (fun c3 => ?_) (fun c3 => ?_)
    · have hf := sat_t hf c3
      refine g_bipush (v := (-3)) B dX5_hard_27 (by decide) ?_
      have hf := sat_some hf
      exact g_iret B rfl rfl dX5_hard_29 hf
    · have hf := sat_f hf c3
      refine g_aload_n B dX5_hard_20 rfl 2 rfl ?_
      obtain ⟨h4, hf⟩ := sat_chk hf
      refine c_get_P_fingeringCost C (eq_of_beq h4) wf_RX5_92 dX5_hard_21 ?_
      refine g_goto (tgt := 29) B dX5_hard_24 (by decide) ?_
      have hf := sat_some hf
      exact g_iret B rfl rfl dX5_hard_29 hf
theorem c_X5_hard (l : Launch) (D : va_G) (Ad : Nat → Nat) (cI cP cII : ClassId) {σ : Mm} {p1 : Int32} {τ : Mm} {r : Int32} (h : f_X5_hard σ p1 = some (τ, r)) : CtI l D (tysC cI cP cII) (wdC Ad cI cP cII) StC yX5_hard cX5_hard 3 .int 6 σ [.ref (Ad 0), .int p1] (τ, r) := by
  refine metI (Ad := Ad) (cI := cI) (cP := cP) (cII := cII) (by decide) (Nat.le_of_ble_eq_true rfl) (wdG_ok _ _ _) stOK_C rfl (fun K C G hR => ?_)
  have e : kAd K = Ad := G.2.2.2.2.2.1
  have C2 := cC_of C G
  have h9 := w_X5_hard C2 σ p1 ⟨_, h, by rw [hR]; exact ⟨rfl, rfl⟩⟩
  rw [e] at h9
  exact h9
theorem ck_X5_hard {K : Kx} {cc : ByteArray} {own : String} {nL d : Nat} {rty : Option FieldType} (C : CxC K cc own nL d rty) {σ : Mm} {p1 : Int32} {τ : Mm} {r : Int32} (h : f_X5_hard σ p1 = some (τ, r)) : CtI (kl K) (kD K) (ktys K) (kwf K) (kSt K) yX5_hard cX5_hard 3 .int 6 σ [.ref (kAd K 0), .int p1] (τ, r) := cC_eq C (P := fun l D tys wf St => CtI l D tys wf St yX5_hard cX5_hard 3 .int 6 σ [.ref (kAd K 0), .int p1] (τ, r)) (c_X5_hard _ _ _ _ _ _ h)
def f_X2_hand (σ : Mm) (p0 : Int32) : Option (Mm × Int32) :=
  some (σ, ((p0 / 100) - (p0 / 100) / 100 * 100))
set_option maxHeartbeats 4000000 in
set_option maxRecDepth 100000 in
theorem w_X2_hand {K : Kx} (C : CxC K cX2_hand RX2 1 0 (some .int)) (σ : Mm) (p0 : Int32) (hf : Sat (f_X2_hand σ p0) (fun o => kRt K (some (.int o.2)) o.1)) : Gj K σ 0 [(0, .int p0)] [] := by
  unfold f_X2_hand at hf
  have B := C.1
  refine g_iload_n B dX2_hand_0 rfl 0 rfl ?_
  refine g_bipush (v := 100) B dX2_hand_1 (by decide) ?_
  refine g_idiv B (by decide) dX2_hand_3 ?_
  refine g_bipush (v := 100) B dX2_hand_4 (by decide) ?_
  refine g_irem B (by decide) dX2_hand_6 ?_
  have hf := sat_some hf
  exact g_iret B rfl rfl dX2_hand_7 hf
theorem c_X2_hand (l : Launch) (D : va_G) (Ad : Nat → Nat) (cI cP cII : ClassId) {σ : Mm} {p0 : Int32} {τ : Mm} {r : Int32} (h : f_X2_hand σ p0 = some (τ, r)) : CtI l D (tysC cI cP cII) (wdC Ad cI cP cII) StC yX2_hand cX2_hand 1 .int 0 σ [.int p0] (τ, r) := by
  refine metI (Ad := Ad) (cI := cI) (cP := cP) (cII := cII) (by decide) (Nat.le_of_ble_eq_true rfl) (wdG_ok _ _ _) stOK_C rfl (fun K C G hR => ?_)
  exact w_X2_hand (cC_of C G) σ p0 ⟨_, h, by rw [hR]; exact ⟨rfl, rfl⟩⟩
theorem ck_X2_hand {K : Kx} {cc : ByteArray} {own : String} {nL d : Nat} {rty : Option FieldType} (C : CxC K cc own nL d rty) {σ : Mm} {p0 : Int32} {τ : Mm} {r : Int32} (h : f_X2_hand σ p0 = some (τ, r)) : CtI (kl K) (kD K) (ktys K) (kwf K) (kSt K) yX2_hand cX2_hand 1 .int 0 σ [.int p0] (τ, r) := cC_eq C (P := fun l D tys wf St => CtI l D tys wf St yX2_hand cX2_hand 1 .int 0 σ [.int p0] (τ, r)) (c_X2_hand _ _ _ _ _ _ h)
def f_X4_fingerOf (σ : Mm) (p0 : Int32) : Option (Mm × Int32) :=
  some (σ, (p0 - p0 / 5 * 5))
set_option maxHeartbeats 4000000 in
set_option maxRecDepth 100000 in
theorem w_X4_fingerOf {K : Kx} (C : CxC K cX4_fingerOf RX4 1 0 (some .int)) (σ : Mm) (p0 : Int32) (hf : Sat (f_X4_fingerOf σ p0) (fun o => kRt K (some (.int o.2)) o.1)) : Gj K σ 0 [(0, .int p0)] [] := by
  unfold f_X4_fingerOf at hf
  have B := C.1
  refine g_iload_n B dX4_fingerOf_0 rfl 0 rfl ?_
  refine g_iconst (v := 5) B dX4_fingerOf_1 (by decide) ?_
  refine g_irem B (by decide) dX4_fingerOf_2 ?_
  have hf := sat_some hf
  exact g_iret B rfl rfl dX4_fingerOf_3 hf
theorem c_X4_fingerOf (l : Launch) (D : va_G) (Ad : Nat → Nat) (cI cP cII : ClassId) {σ : Mm} {p0 : Int32} {τ : Mm} {r : Int32} (h : f_X4_fingerOf σ p0 = some (τ, r)) : CtI l D (tysC cI cP cII) (wdC Ad cI cP cII) StC yX4_fingerOf cX4_fingerOf 1 .int 0 σ [.int p0] (τ, r) := by
  refine metI (Ad := Ad) (cI := cI) (cP := cP) (cII := cII) (by decide) (Nat.le_of_ble_eq_true rfl) (wdG_ok _ _ _) stOK_C rfl (fun K C G hR => ?_)
  exact w_X4_fingerOf (cC_of C G) σ p0 ⟨_, h, by rw [hR]; exact ⟨rfl, rfl⟩⟩
theorem ck_X4_fingerOf {K : Kx} {cc : ByteArray} {own : String} {nL d : Nat} {rty : Option FieldType} (C : CxC K cc own nL d rty) {σ : Mm} {p0 : Int32} {τ : Mm} {r : Int32} (h : f_X4_fingerOf σ p0 = some (τ, r)) : CtI (kl K) (kD K) (ktys K) (kwf K) (kSt K) yX4_fingerOf cX4_fingerOf 1 .int 0 σ [.int p0] (τ, r) := cC_eq C (P := fun l D tys wf St => CtI l D tys wf St yX4_fingerOf cX4_fingerOf 1 .int 0 σ [.int p0] (τ, r)) (c_X4_fingerOf _ _ _ _ _ _ h)
def f_X5_finger (σ : Mm) (p1 : Int32) (p2 : Int32) (p3 : Int32) : Option (Mm × Int32) :=
  bn1 (f_X5_partWith σ p1 p2) (fun σ1 r1 => onul r1 (some (σ1, (-1))) (fun k1 => bn1 (f_X5_isOutside σ1 p3 0 5) (fun σ2 r2 => (if r2 = 0 then bn1 (f_X5_hasFingering σ2 k1) (fun σ4 r4 => (if r4 = 0 then some (σ4, (-3)) else chk (kdC k1 == 2) (chk (inC (k1 + 6) p2) ((if p3 = 0 then bn1 (f_X2_string σ4 (σ4 (k1 + 6) p2.toNatClampNeg)) (fun σ9 r9 => some (σ9, r9)) else (if p3 = 1 then bn1 (f_X2_hand σ4 (σ4 (k1 + 6) p2.toNatClampNeg)) (fun σ10 r10 => some (σ10, r10)) else (if p3 = 2 then bn1 (f_X2_way σ4 (σ4 (k1 + 6) p2.toNatClampNeg)) (fun σ11 r11 => bn1 (f_X4_fingerOf σ11 r11) (fun σ12 r12 => some (σ12, r12))) else (if p3 = 3 then bn1 (f_X2_way σ4 (σ4 (k1 + 6) p2.toNatClampNeg)) (fun σ13 r13 => bn1 (f_X4_extension σ13 r13) (fun σ14 r14 => some (σ14, r14))) else (if p3 = 4 then bn1 (f_X3_isDouble σ4 k1 p2) (fun σ15 r15 => (if r15 = 0 then some (σ15, (-3)) else bn1 (f_X2_greaterWay σ15 (σ4 (k1 + 6) p2.toNatClampNeg)) (fun σ17 r17 => bn1 (f_X4_fingerOf σ17 r17) (fun σ18 r18 => some (σ18, r18))))) else bn1 (f_X3_isDouble σ4 k1 p2) (fun σ19 r19 => (if r19 = 0 then some (σ19, (-3)) else bn1 (f_X2_greaterWay σ19 (σ4 (k1 + 6) p2.toNatClampNeg)) (fun σ21 r21 => bn1 (f_X4_extension σ21 r21) (fun σ22 r22 => some (σ22, r22)))))))))))))) else some (σ2, (-1))))))
set_option maxHeartbeats 4000000 in
set_option maxRecDepth 100000 in
theorem w_X5_finger {K : Kx} (C : CxC K cX5_finger RX5 6 6 (some .int)) (σ : Mm) (p1 : Int32) (p2 : Int32) (p3 : Int32) (hf : Sat (f_X5_finger σ p1 p2 p3) (fun o => kRt K (some (.int o.2)) o.1)) : Gj K σ 0 [(0, .ref (kAd K 0)), (1, .int p1), (2, .int p2), (3, .int p3)] [] := by
  unfold f_X5_finger at hf
  have B := C.1
  refine g_aload_n B dX5_finger_0 rfl 0 rfl ?_
  refine g_iload_n B dX5_finger_1 rfl 1 rfl ?_
  refine g_iload_n B dX5_finger_2 rfl 2 rfl ?_
  obtain ⟨σ1, r1, h1, hf⟩ := sat_ca1 hf
  refine g_cVA (rest := []) B (ck_X5_partWith C h1) mo_X5_partWith wm_RX5_51 (by decide) (cC_o3 C) rfl rfl rfl (Nat.le_of_ble_eq_true rfl) dX5_finger_3 ?_
  cases r1 with
  | none =>
    have hf := sat_on0 hf
    show Gj K σ1 6 [(0, .ref (kAd K 0)), (1, .int p1), (2, .int p2), (3, .int p3)] [.null]
    refine g_astoreN B [(0, .ref (kAd K 0)), (1, .int p1), (2, .int p2), (3, .int p3), (4, .null)] dX5_finger_6 (by decide) [1, 2, 3, 4, 0] rfl ?_
    refine g_aloadN B dX5_finger_8 4 rfl ?_
    refine g_ifnullN (tgt := 22) B dX5_finger_10 (by decide) ?_
    refine g_iconst (v := (-1)) B dX5_finger_22 (by decide) ?_
    have hf := sat_some hf
    exact g_iret B rfl rfl dX5_finger_23 hf
  | some k1 =>
    have hf := sat_on1 hf
    show Gj K σ1 6 [(0, .ref (kAd K 0)), (1, .int p1), (2, .int p2), (3, .int p3)] [.ref (kAd K k1)]
    refine g_astore B [(0, .ref (kAd K 0)), (1, .int p1), (2, .int p2), (3, .int p3), (4, .ref (kAd K k1))] dX5_finger_6 (by decide) [1, 2, 3, 4, 0] rfl ?_
    refine g_aload B dX5_finger_8 4 rfl ?_
    refine g_ifnull B dX5_finger_10 ?_
    refine g_iload_n B dX5_finger_13 rfl 3 rfl ?_
    refine g_iconst (v := 0) B dX5_finger_14 (by decide) ?_
    refine g_iconst (v := 5) B dX5_finger_15 (by decide) ?_
    obtain ⟨σ2, r2, h2, hf⟩ := sat_ca1 hf
    refine g_cSI (rest := []) B (ck_X5_isOutside C h2) mo_X5_isOutside wm_RX5_27 (by decide) rfl rfl (Nat.le_of_ble_eq_true rfl) dX5_finger_16 ?_
    refine g_if_eq (tgt := 24) B dX5_finger_19 (by decide) (fun c3 => ?_) (fun c3 => ?_)
    · have hf := sat_t hf c3
      refine g_aload_n B dX5_finger_24 rfl 0 rfl ?_
      refine g_aload B dX5_finger_25 4 rfl ?_
      obtain ⟨σ4, r4, h4, hf⟩ := sat_ca1 hf
      refine g_cVI (rest := []) B (ck_X5_hasFingering C h4) mo_X5_hasFingering wm_RX5_88 (by decide) (cC_o3 C) rfl rfl rfl (Nat.le_of_ble_eq_true rfl) dX5_finger_27 ?_
      refine g_if_ne (tgt := 36) B dX5_finger_30 (by decide) (fun c5 => ?_) (fun c5 => ?_)
      · have hf := sat_f hf c5
        refine g_aload B dX5_finger_36 4 rfl ?_
        obtain ⟨h6, hf⟩ := sat_chk hf
        refine c_get_P_fingering C (eq_of_beq h6) wf_RX5_95 dX5_finger_38 ?_
        refine g_iload_n B dX5_finger_41 rfl 2 rfl ?_
        obtain ⟨h7, hf⟩ := sat_chk hf
        refine c_iald C h7 dX5_finger_42 ?_
        refine g_istore B [(0, .ref (kAd K 0)), (1, .int p1), (2, .int p2), (3, .int p3), (4, .ref (kAd K k1)), (5, .int ((σ4 (k1 + 6) p2.toNatClampNeg)))] dX5_finger_43 (by decide) [1, 2, 3, 4, 5, 0] rfl ?_
        refine g_iload_n B dX5_finger_45 rfl 3 rfl ?_
        by_cases c8_0 : p3 = 0
        · have hf := sat_t hf c8_0
          refine g_tabIn (tgt := 80) (off := 34) B c8_0 dX5_finger_46 (by decide) (by decide) (by decide) (by decide) ?_
          refine g_iload B dX5_finger_80 5 rfl ?_
          obtain ⟨σ9, r9, h9, hf⟩ := sat_ca1 hf
          refine g_cSI (rest := []) B (ck_X2_string C h9) mo_X2_string wm_RX5_98 (by decide) rfl rfl (Nat.le_of_ble_eq_true rfl) dX5_finger_82 ?_
          have hf := sat_some hf
          exact g_iret B rfl rfl dX5_finger_85 hf
        · have hf := sat_f hf c8_0
          by_cases c8_1 : p3 = 1
          · have hf := sat_t hf c8_1
            refine g_tabIn (tgt := 86) (off := 40) B c8_1 dX5_finger_46 (by decide) (by decide) (by decide) (by decide) ?_
            refine g_iload B dX5_finger_86 5 rfl ?_
            obtain ⟨σ10, r10, h10, hf⟩ := sat_ca1 hf
            refine g_cSI (rest := []) B (ck_X2_hand C h10) mo_X2_hand wm_RX5_101 (by decide) rfl rfl (Nat.le_of_ble_eq_true rfl) dX5_finger_88 ?_
            have hf := sat_some hf
            exact g_iret B rfl rfl dX5_finger_91 hf
          · have hf := sat_f hf c8_1
            by_cases c8_2 : p3 = 2
            · have hf := sat_t hf c8_2
              refine g_tabIn (tgt := 92) (off := 46) B c8_2 dX5_finger_46 (by decide) (by decide) (by decide) (by decide) ?_
              refine g_iload B dX5_finger_92 5 rfl ?_
              obtain ⟨σ11, r11, h11, hf⟩ := sat_ca1 hf
              refine g_cSI (rest := []) B (ck_X2_way C h11) mo_X2_way wm_RX5_104 (by decide) rfl rfl (Nat.le_of_ble_eq_true rfl) dX5_finger_94 ?_
              obtain ⟨σ12, r12, h12, hf⟩ := sat_ca1 hf
              refine g_cSI (rest := []) B (ck_X4_fingerOf C h12) mo_X4_fingerOf wm_RX5_107 (by decide) rfl rfl (Nat.le_of_ble_eq_true rfl) dX5_finger_97 ?_
              have hf := sat_some hf
              exact g_iret B rfl rfl dX5_finger_100 hf
            · have hf := sat_f hf c8_2
              by_cases c8_3 : p3 = 3
              · have hf := sat_t hf c8_3
                refine g_tabIn (tgt := 101) (off := 55) B c8_3 dX5_finger_46 (by decide) (by decide) (by decide) (by decide) ?_
                refine g_iload B dX5_finger_101 5 rfl ?_
                obtain ⟨σ13, r13, h13, hf⟩ := sat_ca1 hf
                refine g_cSI (rest := []) B (ck_X2_way C h13) mo_X2_way wm_RX5_104 (by decide) rfl rfl (Nat.le_of_ble_eq_true rfl) dX5_finger_103 ?_
                obtain ⟨σ14, r14, h14, hf⟩ := sat_ca1 hf
                refine g_cSI (rest := []) B (ck_X4_extension C h14) mo_X4_extension wm_RX5_112 (by decide) rfl rfl (Nat.le_of_ble_eq_true rfl) dX5_finger_106 ?_
                have hf := sat_some hf
                exact g_iret B rfl rfl dX5_finger_109 hf
              · have hf := sat_f hf c8_3
                by_cases c8_4 : p3 = 4
                · have hf := sat_t hf c8_4
                  refine g_tabIn (tgt := 110) (off := 64) B c8_4 dX5_finger_46 (by decide) (by decide) (by decide) (by decide) ?_
                  refine g_aload B dX5_finger_110 4 rfl ?_
                  refine g_iload_n B dX5_finger_112 rfl 2 rfl ?_
                  obtain ⟨σ15, r15, h15, hf⟩ := sat_ca1 hf
                  refine g_cVI (rest := []) B (ck_X3_isDouble C h15) mo_X3_isDouble wm_RX5_67 (by decide) (cC_o2 C (eq_of_beq h6)) rfl rfl rfl (Nat.le_of_ble_eq_true rfl) dX5_finger_113 ?_
                  refine g_if_eq (tgt := 130) B dX5_finger_116 (by decide) (fun c16 => ?_) (fun c16 => ?_)
                  · have hf := sat_t hf c16
                    refine g_bipush (v := (-3)) B dX5_finger_130 (by decide) ?_
                    have hf := sat_some hf
                    exact g_iret B rfl rfl dX5_finger_132 hf
                  · have hf := sat_f hf c16
                    refine g_iload B dX5_finger_119 5 rfl ?_
                    obtain ⟨σ17, r17, h17, hf⟩ := sat_ca1 hf
                    refine g_cSI (rest := []) B (ck_X2_greaterWay C h17) mo_X2_greaterWay wm_RX5_115 (by decide) rfl rfl (Nat.le_of_ble_eq_true rfl) dX5_finger_121 ?_
                    obtain ⟨σ18, r18, h18, hf⟩ := sat_ca1 hf
                    refine g_cSI (rest := []) B (ck_X4_fingerOf C h18) mo_X4_fingerOf wm_RX5_107 (by decide) rfl rfl (Nat.le_of_ble_eq_true rfl) dX5_finger_124 ?_
                    refine g_goto (tgt := 132) B dX5_finger_127 (by decide) ?_
                    have hf := sat_some hf
                    exact g_iret B rfl rfl dX5_finger_132 hf
                · have hf := sat_f hf c8_4
                  refine g_tabOut (tgt := 133) B (by
                    have z0 := ne_toI c8_0 (z := 0) (by decide)
                    have z1 := ne_toI c8_1 (z := 1) (by decide)
                    have z2 := ne_toI c8_2 (z := 2) (by decide)
                    have z3 := ne_toI c8_3 (z := 3) (by decide)
                    have z4 := ne_toI c8_4 (z := 4) (by decide)
                    omega) dX5_finger_46 (by decide) ?_
                  refine g_aload B dX5_finger_133 4 rfl ?_
                  refine g_iload_n B dX5_finger_135 rfl 2 rfl ?_
                  obtain ⟨σ19, r19, h19, hf⟩ := sat_ca1 hf
                  refine g_cVI (rest := []) B (ck_X3_isDouble C h19) mo_X3_isDouble wm_RX5_67 (by decide) (cC_o2 C (eq_of_beq h6)) rfl rfl rfl (Nat.le_of_ble_eq_true rfl) dX5_finger_136 ?_
                  refine g_if_eq (tgt := 153) B dX5_finger_139 (by decide) (fun c20 => ?_) (fun c20 => ?_)
                  · have hf := sat_t hf c20
                    refine g_bipush (v := (-3)) B dX5_finger_153 (by decide) ?_
                    have hf := sat_some hf
                    exact g_iret B rfl rfl dX5_finger_155 hf
                  · have hf := sat_f hf c20
                    refine g_iload B dX5_finger_142 5 rfl ?_
                    obtain ⟨σ21, r21, h21, hf⟩ := sat_ca1 hf
                    refine g_cSI (rest := []) B (ck_X2_greaterWay C h21) mo_X2_greaterWay wm_RX5_115 (by decide) rfl rfl (Nat.le_of_ble_eq_true rfl) dX5_finger_144 ?_
                    obtain ⟨σ22, r22, h22, hf⟩ := sat_ca1 hf
                    refine g_cSI (rest := []) B (ck_X4_extension C h22) mo_X4_extension wm_RX5_112 (by decide) rfl rfl (Nat.le_of_ble_eq_true rfl) dX5_finger_147 ?_
                    refine g_goto (tgt := 155) B dX5_finger_150 (by decide) ?_
                    have hf := sat_some hf
                    exact g_iret B rfl rfl dX5_finger_155 hf
      · have hf := sat_t hf c5
        refine g_bipush (v := (-3)) B dX5_finger_33 (by decide) ?_
        have hf := sat_some hf
        exact g_iret B rfl rfl dX5_finger_35 hf
    · have hf := sat_f hf c3
      refine g_iconst (v := (-1)) B dX5_finger_22 (by decide) ?_
      have hf := sat_some hf
      exact g_iret B rfl rfl dX5_finger_23 hf
theorem c_X5_finger (l : Launch) (D : va_G) (Ad : Nat → Nat) (cI cP cII : ClassId) {σ : Mm} {p1 : Int32} {p2 : Int32} {p3 : Int32} {τ : Mm} {r : Int32} (h : f_X5_finger σ p1 p2 p3 = some (τ, r)) : CtI l D (tysC cI cP cII) (wdC Ad cI cP cII) StC yX5_finger cX5_finger 6 .int 6 σ [.ref (Ad 0), .int p1, .int p2, .int p3] (τ, r) := by
  refine metI (Ad := Ad) (cI := cI) (cP := cP) (cII := cII) (by decide) (Nat.le_of_ble_eq_true rfl) (wdG_ok _ _ _) stOK_C rfl (fun K C G hR => ?_)
  have e : kAd K = Ad := G.2.2.2.2.2.1
  have C2 := cC_of C G
  have h9 := w_X5_finger C2 σ p1 p2 p3 ⟨_, h, by rw [hR]; exact ⟨rfl, rfl⟩⟩
  rw [e] at h9
  exact h9
theorem ck_X5_finger {K : Kx} {cc : ByteArray} {own : String} {nL d : Nat} {rty : Option FieldType} (C : CxC K cc own nL d rty) {σ : Mm} {p1 : Int32} {p2 : Int32} {p3 : Int32} {τ : Mm} {r : Int32} (h : f_X5_finger σ p1 p2 p3 = some (τ, r)) : CtI (kl K) (kD K) (ktys K) (kwf K) (kSt K) yX5_finger cX5_finger 6 .int 6 σ [.ref (kAd K 0), .int p1, .int p2, .int p3] (τ, r) := cC_eq C (P := fun l D tys wf St => CtI l D tys wf St yX5_finger cX5_finger 6 .int 6 σ [.ref (kAd K 0), .int p1, .int p2, .int p3] (τ, r)) (c_X5_finger _ _ _ _ _ _ h)
