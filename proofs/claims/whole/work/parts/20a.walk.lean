def f_X5_isOutside (σ : Mm) (p0 : Int32) (p1 : Int32) (p2 : Int32) : Option (Mm × Int32) :=
  (if p0 < p1 then some (σ, 1) else (if p0 ≤ p2 then some (σ, 0) else some (σ, 1)))
set_option maxHeartbeats 4000000 in
set_option maxRecDepth 100000 in
theorem w_X5_isOutside {K : Kx} (C : CxC K cX5_isOutside RX5 3 0 (some .boolean)) (σ : Mm) (p0 : Int32) (p1 : Int32) (p2 : Int32) (hf : Sat (f_X5_isOutside σ p0 p1 p2) (fun o => kRt K (some (.int o.2)) o.1)) : Gj K σ 0 [(0, .int p0), (1, .int p1), (2, .int p2)] [] := by
  unfold f_X5_isOutside at hf
  have B := C.1
  refine g_iload_n B dX5_isOutside_0 rfl 0 rfl ?_
  refine g_iload_n B dX5_isOutside_1 rfl 1 rfl ?_
  refine g_icmp_lt (tgt := 10) B dX5_isOutside_2 (by decide) (fun c1 => ?_) (fun c1 => ?_)
  · have hf := sat_t hf c1
    refine g_iconst (v := 1) B dX5_isOutside_10 (by decide) ?_
    refine g_goto (tgt := 15) B dX5_isOutside_11 (by decide) ?_
    have hf := sat_some hf
    exact g_iret B rfl rfl dX5_isOutside_15 hf
  · have hf := sat_f hf c1
    refine g_iload_n B dX5_isOutside_5 rfl 0 rfl ?_
    refine g_iload_n B dX5_isOutside_6 rfl 2 rfl ?_
    refine g_icmp_le (tgt := 14) B dX5_isOutside_7 (by decide) (fun c2 => ?_) (fun c2 => ?_)
    · have hf := sat_t hf c2
      refine g_iconst (v := 0) B dX5_isOutside_14 (by decide) ?_
      have hf := sat_some hf
      exact g_iret B rfl rfl dX5_isOutside_15 hf
    · have hf := sat_f hf c2
      refine g_iconst (v := 1) B dX5_isOutside_10 (by decide) ?_
      refine g_goto (tgt := 15) B dX5_isOutside_11 (by decide) ?_
      have hf := sat_some hf
      exact g_iret B rfl rfl dX5_isOutside_15 hf
theorem c_X5_isOutside (l : Launch) (D : va_G) (Ad : Nat → Nat) (cI cP cII : ClassId) {σ : Mm} {p0 : Int32} {p1 : Int32} {p2 : Int32} {τ : Mm} {r : Int32} (h : f_X5_isOutside σ p0 p1 p2 = some (τ, r)) : CtI l D (tysC cI cP cII) (wdC Ad cI cP cII) StC yX5_isOutside cX5_isOutside 3 .boolean 0 σ [.int p0, .int p1, .int p2] (τ, r) := by
  refine metI (Ad := Ad) (cI := cI) (cP := cP) (cII := cII) (by decide) (Nat.le_of_ble_eq_true rfl) (wdG_ok _ _ _) stOK_C rfl (fun K C G hR => ?_)
  exact w_X5_isOutside (cC_of C G) σ p0 p1 p2 ⟨_, h, by rw [hR]; exact ⟨rfl, rfl⟩⟩
theorem ck_X5_isOutside {K : Kx} {cc : ByteArray} {own : String} {nL d : Nat} {rty : Option FieldType} (C : CxC K cc own nL d rty) {σ : Mm} {p0 : Int32} {p1 : Int32} {p2 : Int32} {τ : Mm} {r : Int32} (h : f_X5_isOutside σ p0 p1 p2 = some (τ, r)) : CtI (kl K) (kD K) (ktys K) (kwf K) (kSt K) yX5_isOutside cX5_isOutside 3 .boolean 0 σ [.int p0, .int p1, .int p2] (τ, r) := cC_eq C (P := fun l D tys wf St => CtI l D tys wf St yX5_isOutside cX5_isOutside 3 .boolean 0 σ [.int p0, .int p1, .int p2] (τ, r)) (c_X5_isOutside _ _ _ _ _ _ h)
def f_X5_tune_s38 (σ7 : Mm) (v7_4 : Int32) : Option ((Mm × Int32) ⊕ (Mm)) :=
  (if 3 ≤ v7_4 then some (.inr σ7) else chk (inb v7_4 3) (chk (kdC (31 + 15 * v7_4.toNatClampNeg) == 2) (nm (ms σ7 (31 + 15 * v7_4.toNatClampNeg) 2 0) (fun σ12 => some (.inl (σ12, (v7_4 + 1)))))))
def f_X5_tune (σ : Mm) (p1 : Int32) (p2 : Int32) : Option (Mm × Int32) :=
  bn1 (f_X5_isOutside σ p1 0 3) (fun σ1 r1 => (if r1 = 0 then bn1 (f_X5_isOutside σ1 p2 0 60) (fun σ3 r3 => (if r3 = 0 then chk (inC 1 p1) (chk (inC 1 p1) (nm (ms σ3 1 p1.toNatClampNeg p2) (fun σ6 => bn0 (lq1 f_X5_tune_s38 fu σ6 0) (fun σ8 => some (σ8, (σ3 1 p1.toNatClampNeg)))))) else some (σ3, (-1)))) else some (σ1, (-1))))
set_option maxHeartbeats 4000000 in
set_option maxRecDepth 100000 in
theorem w_X5_tune {K : Kx} (C : CxC K cX5_tune RX5 5 1 (some .int)) (σ : Mm) (p1 : Int32) (p2 : Int32) (hf : Sat (f_X5_tune σ p1 p2) (fun o => kRt K (some (.int o.2)) o.1)) : Gj K σ 0 [(0, .ref (kAd K 0)), (1, .int p1), (2, .int p2)] [] := by
  unfold f_X5_tune at hf
  have B := C.1
  refine g_iload_n B dX5_tune_0 rfl 1 rfl ?_
  refine g_iconst (v := 0) B dX5_tune_1 (by decide) ?_
  refine g_iconst (v := 3) B dX5_tune_2 (by decide) ?_
  obtain ⟨σ1, r1, h1, hf⟩ := sat_ca1 hf
  refine g_cSI (rest := []) B (ck_X5_isOutside C h1) mo_X5_isOutside wm_RX5_27 (by decide) rfl rfl (Nat.le_of_ble_eq_true rfl) dX5_tune_3 ?_
  refine g_if_ne (tgt := 19) B dX5_tune_6 (by decide) (fun c2 => ?_) (fun c2 => ?_)
  · have hf := sat_f hf c2
    refine g_iconst (v := (-1)) B dX5_tune_19 (by decide) ?_
    have hf := sat_some hf
    exact g_iret B rfl rfl dX5_tune_20 hf
  · have hf := sat_t hf c2
    refine g_iload_n B dX5_tune_9 rfl 2 rfl ?_
    refine g_iconst (v := 0) B dX5_tune_10 (by decide) ?_
    refine g_bipush (v := 60) B dX5_tune_11 (by decide) ?_
    obtain ⟨σ3, r3, h3, hf⟩ := sat_ca1 hf
    refine g_cSI (rest := []) B (ck_X5_isOutside C h3) mo_X5_isOutside wm_RX5_27 (by decide) rfl rfl (Nat.le_of_ble_eq_true rfl) dX5_tune_13 ?_
    refine g_if_eq (tgt := 21) B dX5_tune_16 (by decide) (fun c4 => ?_) (fun c4 => ?_)
    · have hf := sat_t hf c4
      refine g_aload_n B dX5_tune_21 rfl 0 rfl ?_
      refine c_get_F_open C wf_RX5_7 dX5_tune_22 ?_
      refine g_iload_n B dX5_tune_25 rfl 1 rfl ?_
      obtain ⟨h5, hf⟩ := sat_chk hf
      refine c_iald C h5 dX5_tune_26 ?_
      refine g_istore_n B [(0, .ref (kAd K 0)), (1, .int p1), (2, .int p2), (3, .int ((σ3 1 p1.toNatClampNeg)))] dX5_tune_27 rfl (by decide) [1, 2, 3, 0] rfl ?_
      refine g_aload_n B dX5_tune_28 rfl 0 rfl ?_
      refine c_get_F_open C wf_RX5_7 dX5_tune_29 ?_
      refine g_iload_n B dX5_tune_32 rfl 1 rfl ?_
      refine g_iload_n B dX5_tune_33 rfl 2 rfl ?_
      obtain ⟨h6, hf⟩ := sat_chk hf
      obtain ⟨σ6, e6, hf⟩ := sat_nm hf
      refine c_iast C h6 dX5_tune_34 (g_mem2 e6 ?_)
      refine g_iconst (v := 0) B dX5_tune_35 (by decide) ?_
      refine g_istore B [(0, .ref (kAd K 0)), (1, .int p1), (2, .int p2), (3, .int ((σ3 1 p1.toNatClampNeg))), (4, .int 0)] dX5_tune_36 (by decide) [1, 2, 3, 4, 0] rfl ?_
      refine g_sub (lv' := [(0, .ref (kAd K 0)), (3, .int ((σ3 1 p1.toNatClampNeg))), (4, .int 0)]) ?_ [0, 3, 4] rfl
      have hf := sat_cu0 (G := fun σ8 => Gj K σ8 61 [(3, .int ((σ3 1 p1.toNatClampNeg)))] []) hf (by
        intro σ8 hf
        refine g_iload_n B dX5_tune_61 rfl 0 rfl ?_
        have hf := sat_some hf
        exact g_iret B rfl rfl dX5_tune_62 hf)
      refine lqr1 (Gh := fun σ7 v7_4 => Gj K σ7 38 [(0, .ref (kAd K 0)), (3, .int ((σ3 1 p1.toNatClampNeg))), (4, .int v7_4)] []) ?_ fu σ6 0 hf
      intro σ7 v7_4 hf
      unfold f_X5_tune_s38 at hf
      refine g_iload B dX5_tune_38 2 rfl ?_
      refine g_iconst (v := 3) B dX5_tune_40 (by decide) ?_
      refine g_icmp_ge (tgt := 61) B dX5_tune_41 (by decide) (fun c9 => ?_) (fun c9 => ?_)
      · have hf := sat_t hf c9
        have hf := sum_r (sat_some hf)
        exact g_sub hf [1] rfl
      · have hf := sat_f hf c9
        refine g_aload_n B dX5_tune_44 rfl 0 rfl ?_
        refine c_get_F_parts C wf_RX5_16 dX5_tune_45 ?_
        refine g_iload B dX5_tune_48 2 rfl ?_
        obtain ⟨h10, hf⟩ := sat_chk hf
        refine c_aald2 C h10 dX5_tune_50 ?_
        refine g_iconst (v := 0) B dX5_tune_51 (by decide) ?_
        obtain ⟨h11, hf⟩ := sat_chk hf
        obtain ⟨σ12, e12, hf⟩ := sat_nm hf
        refine c_put_P_isFingered C (eq_of_beq h11) rfl rfl wf_RX5_31 dX5_tune_52 (g_mem2 e12 ?_)
        refine g_iinc B (v7_4 + 1) [(0, .ref (kAd K 0)), (3, .int ((σ3 1 p1.toNatClampNeg))), (4, .int ((v7_4 + 1)))] dX5_tune_55 2 rfl rfl (by decide) [1, 2, 0] rfl ?_
        refine g_goto (tgt := 38) B dX5_tune_58 (by decide) ?_
        have hf := sum_l (sat_some hf)
        exact g_sub hf [0, 1, 2] rfl
    · have hf := sat_f hf c4
      refine g_iconst (v := (-1)) B dX5_tune_19 (by decide) ?_
      have hf := sat_some hf
      exact g_iret B rfl rfl dX5_tune_20 hf
theorem c_X5_tune (l : Launch) (D : va_G) (Ad : Nat → Nat) (cI cP cII : ClassId) {σ : Mm} {p1 : Int32} {p2 : Int32} {τ : Mm} {r : Int32} (h : f_X5_tune σ p1 p2 = some (τ, r)) : CtI l D (tysC cI cP cII) (wdC Ad cI cP cII) StC yX5_tune cX5_tune 5 .int 1 σ [.ref (Ad 0), .int p1, .int p2] (τ, r) := by
  refine metI (Ad := Ad) (cI := cI) (cP := cP) (cII := cII) (by decide) (Nat.le_of_ble_eq_true rfl) (wdG_ok _ _ _) stOK_C rfl (fun K C G hR => ?_)
  have e : kAd K = Ad := G.2.2.2.2.2.1
  have C2 := cC_of C G
  have h9 := w_X5_tune C2 σ p1 p2 ⟨_, h, by rw [hR]; exact ⟨rfl, rfl⟩⟩
  rw [e] at h9
  exact h9
theorem ck_X5_tune {K : Kx} {cc : ByteArray} {own : String} {nL d : Nat} {rty : Option FieldType} (C : CxC K cc own nL d rty) {σ : Mm} {p1 : Int32} {p2 : Int32} {τ : Mm} {r : Int32} (h : f_X5_tune σ p1 p2 = some (τ, r)) : CtI (kl K) (kD K) (ktys K) (kwf K) (kSt K) yX5_tune cX5_tune 5 .int 1 σ [.ref (kAd K 0), .int p1, .int p2] (τ, r) := cC_eq C (P := fun l D tys wf St => CtI l D tys wf St yX5_tune cX5_tune 5 .int 1 σ [.ref (kAd K 0), .int p1, .int p2] (τ, r)) (c_X5_tune _ _ _ _ _ _ h)
def f_X3_append (σ : Mm) (k0 : Nat) (p1 : Int32) (p2 : Int32) (p3 : Int32) : Option (Mm) :=
  chk (kdC k0 == 2) ((if (σ k0 0) < 0 then some σ else (if (σ k0 0) < 12 then chk (inC (k0 + 1) (σ k0 0)) (nm (ms σ (k0 + 1) (σ k0 0).toNatClampNeg p1) (fun σ4 => chk (inC (k0 + 2) (σ4 k0 0)) (nm (ms σ4 (k0 + 2) (σ4 k0 0).toNatClampNeg (-1)) (fun σ5 => chk (inC (k0 + 3) (σ5 k0 0)) (nm (ms σ5 (k0 + 3) (σ5 k0 0).toNatClampNeg p2) (fun σ6 => bn1 ((if (σ6 k0 0) = 0 then some (σ6, 0) else chk (inC (k0 + 4) ((σ6 k0 0) - 1)) (chk (inC (k0 + 3) ((σ6 k0 0) - 1)) (some (σ6, ((σ6 (k0 + 4) ((σ6 k0 0) - 1).toNatClampNeg) + (σ6 (k0 + 3) ((σ6 k0 0) - 1).toNatClampNeg)))))) : Option (Mm × Int32)) (fun σ7 w7_0 => chk (inC (k0 + 4) (σ6 k0 0)) (nm (ms σ7 (k0 + 4) (σ6 k0 0).toNatClampNeg w7_0) (fun σ8 => chk (inC (k0 + 5) (σ8 k0 0)) (nm (ms σ8 (k0 + 5) (σ8 k0 0).toNatClampNeg p3) (fun σ9 => nm (ms σ9 k0 0 ((σ9 k0 0) + 1)) (fun σ10 => nm (ms σ10 k0 2 0) (fun σ11 => some σ11))))))))))))) else some σ)))
set_option maxHeartbeats 4000000 in
set_option maxRecDepth 100000 in
theorem w_X3_append {K : Kx} (C : CxC K cX3_append RX3 4 0 none) (σ : Mm) (k0 : Nat) (p1 : Int32) (p2 : Int32) (p3 : Int32) (hf : Sat (f_X3_append σ k0 p1 p2 p3) (fun o => kRt K none o)) : Gj K σ 0 [(0, .ref (kAd K k0)), (1, .int p1), (2, .int p2), (3, .int p3)] [] := by
  unfold f_X3_append at hf
  have B := C.1
  refine g_aload_n B dX3_append_0 rfl 0 rfl ?_
  obtain ⟨h1, hf⟩ := sat_chk hf
  refine c_get_P_count C (eq_of_beq h1) wf_RX3_40 dX3_append_1 ?_
  refine g_if_lt (tgt := 16) B dX3_append_4 (by decide) (fun c2 => ?_) (fun c2 => ?_)
  · have hf := sat_t hf c2
    have hf := sat_some hf
    exact g_vret B rfl dX3_append_16 hf
  · have hf := sat_f hf c2
    refine g_aload_n B dX3_append_7 rfl 0 rfl ?_
    refine c_get_P_count C (eq_of_beq h1) wf_RX3_40 dX3_append_8 ?_
    refine g_bipush (v := 12) B dX3_append_11 (by decide) ?_
    refine g_icmp_lt (tgt := 17) B dX3_append_13 (by decide) (fun c3 => ?_) (fun c3 => ?_)
    · have hf := sat_t hf c3
      refine g_aload_n B dX3_append_17 rfl 0 rfl ?_
      refine c_get_P_pitches C (eq_of_beq h1) wf_RX3_9 dX3_append_18 ?_
      refine g_aload_n B dX3_append_21 rfl 0 rfl ?_
      refine c_get_P_count C (eq_of_beq h1) wf_RX3_40 dX3_append_22 ?_
      refine g_iload_n B dX3_append_25 rfl 1 rfl ?_
      obtain ⟨h4, hf⟩ := sat_chk hf
      obtain ⟨σ4, e4, hf⟩ := sat_nm hf
      refine c_iast C h4 dX3_append_26 (g_mem2 e4 ?_)
      refine g_aload_n B dX3_append_27 rfl 0 rfl ?_
      refine c_get_P_seconds C (eq_of_beq h1) wf_RX3_15 dX3_append_28 ?_
      refine g_aload_n B dX3_append_31 rfl 0 rfl ?_
      refine c_get_P_count C (eq_of_beq h1) wf_RX3_40 dX3_append_32 ?_
      refine g_iconst (v := (-1)) B dX3_append_35 (by decide) ?_
      obtain ⟨h5, hf⟩ := sat_chk hf
      obtain ⟨σ5, e5, hf⟩ := sat_nm hf
      refine c_iast C h5 dX3_append_36 (g_mem2 e5 ?_)
      refine g_aload_n B dX3_append_37 rfl 0 rfl ?_
      refine c_get_P_lengths C (eq_of_beq h1) wf_RX3_18 dX3_append_38 ?_
      refine g_aload_n B dX3_append_41 rfl 0 rfl ?_
      refine c_get_P_count C (eq_of_beq h1) wf_RX3_40 dX3_append_42 ?_
      refine g_iload_n B dX3_append_45 rfl 2 rfl ?_
      obtain ⟨h6, hf⟩ := sat_chk hf
      obtain ⟨σ6, e6, hf⟩ := sat_nm hf
      refine c_iast C h6 dX3_append_46 (g_mem2 e6 ?_)
      refine g_aload_n B dX3_append_47 rfl 0 rfl ?_
      refine c_get_P_onsets C (eq_of_beq h1) wf_RX3_21 dX3_append_48 ?_
      refine g_aload_n B dX3_append_51 rfl 0 rfl ?_
      refine c_get_P_count C (eq_of_beq h1) wf_RX3_40 dX3_append_52 ?_
      refine g_aload_n B dX3_append_55 rfl 0 rfl ?_
      refine c_get_P_count C (eq_of_beq h1) wf_RX3_40 dX3_append_56 ?_
      have hf := sat_cu1 (G := fun σ7 w7_0 => Gj K σ7 89 [(0, .ref (kAd K k0)), (3, .int p3)] [.int w7_0, .int ((σ6 k0 0)), .ref (kAd K ((k0 + 4)))]) hf (by
        intro σ7 w7_0 hf
        obtain ⟨h8, hf⟩ := sat_chk hf
        obtain ⟨σ8, e8, hf⟩ := sat_nm hf
        refine c_iast C h8 dX3_append_89 (g_mem2 e8 ?_)
        refine g_aload_n B dX3_append_90 rfl 0 rfl ?_
        refine c_get_P_marks C (eq_of_beq h1) wf_RX3_24 dX3_append_91 ?_
        refine g_aload_n B dX3_append_94 rfl 0 rfl ?_
        refine c_get_P_count C (eq_of_beq h1) wf_RX3_40 dX3_append_95 ?_
        refine g_iload_n B dX3_append_98 rfl 1 rfl ?_
        obtain ⟨h9, hf⟩ := sat_chk hf
        obtain ⟨σ9, e9, hf⟩ := sat_nm hf
        refine c_iast C h9 dX3_append_99 (g_mem2 e9 ?_)
        refine g_aload_n B dX3_append_100 rfl 0 rfl ?_
        refine g_dup B rfl dX3_append_101 ?_
        refine c_get_P_count C (eq_of_beq h1) wf_RX3_40 dX3_append_102 ?_
        refine g_iconst (v := 1) B dX3_append_105 (by decide) ?_
        refine g_iadd B dX3_append_106 ?_
        obtain ⟨σ10, e10, hf⟩ := sat_nm hf
        refine c_put_P_count C (eq_of_beq h1) wf_RX3_40 dX3_append_107 (g_mem2 e10 ?_)
        refine g_aload_n B dX3_append_110 rfl 0 rfl ?_
        refine g_iconst (v := 0) B dX3_append_111 (by decide) ?_
        obtain ⟨σ11, e11, hf⟩ := sat_nm hf
        refine c_put_P_isFingered C (eq_of_beq h1) rfl rfl wf_RX3_44 dX3_append_112 (g_mem2 e11 ?_)
        have hf := sat_some hf
        exact g_vret B rfl dX3_append_115 hf)
      refine g_if_ne (tgt := 66) B dX3_append_59 (by decide) (fun c7 => ?_) (fun c7 => ?_)
      · have hf := sat_f hf c7
        refine g_aload_n B dX3_append_66 rfl 0 rfl ?_
        refine c_get_P_onsets C (eq_of_beq h1) wf_RX3_21 dX3_append_67 ?_
        refine g_aload_n B dX3_append_70 rfl 0 rfl ?_
        refine c_get_P_count C (eq_of_beq h1) wf_RX3_40 dX3_append_71 ?_
        refine g_iconst (v := 1) B dX3_append_74 (by decide) ?_
        refine g_isub B dX3_append_75 ?_
        obtain ⟨h12, hf⟩ := sat_chk hf
        refine c_iald C h12 dX3_append_76 ?_
        refine g_aload_n B dX3_append_77 rfl 0 rfl ?_
        refine c_get_P_lengths C (eq_of_beq h1) wf_RX3_18 dX3_append_78 ?_
        refine g_aload_n B dX3_append_81 rfl 0 rfl ?_
        refine c_get_P_count C (eq_of_beq h1) wf_RX3_40 dX3_append_82 ?_
        refine g_iconst (v := 1) B dX3_append_85 (by decide) ?_
        refine g_isub B dX3_append_86 ?_
        obtain ⟨h13, hf⟩ := sat_chk hf
        refine c_iald C h13 dX3_append_87 ?_
        refine g_iadd B dX3_append_88 ?_
        have hf := sat_some hf
        exact g_sub hf [0, 3] rfl
      · have hf := sat_t hf c7
        refine g_iconst (v := 0) B dX3_append_62 (by decide) ?_
        refine g_goto (tgt := 89) B dX3_append_63 (by decide) ?_
        have hf := sat_some hf
        exact g_sub hf [0, 3] rfl
    · have hf := sat_f hf c3
      have hf := sat_some hf
      exact g_vret B rfl dX3_append_16 hf
theorem c_X3_append (l : Launch) (D : va_G) (Ad : Nat → Nat) (cI cP cII : ClassId) {σ : Mm} {k0 : Nat} {p1 : Int32} {p2 : Int32} {p3 : Int32} {τ : Mm} (h : f_X3_append σ k0 p1 p2 p3 = some τ) : CtV l D (tysC cI cP cII) (wdC Ad cI cP cII) StC yX3_append cX3_append 4 0 σ [.ref (Ad k0), .int p1, .int p2, .int p3] τ := by
  refine metV (Ad := Ad) (cI := cI) (cP := cP) (cII := cII) (by decide) (Nat.le_of_ble_eq_true rfl) (wdG_ok _ _ _) stOK_C rfl (fun K C G hR => ?_)
  have e : kAd K = Ad := G.2.2.2.2.2.1
  have C2 := cC_of C G
  have h9 := w_X3_append C2 σ k0 p1 p2 p3 ⟨_, h, by rw [hR]; exact ⟨rfl, rfl⟩⟩
  rw [e] at h9
  exact h9
theorem ck_X3_append {K : Kx} {cc : ByteArray} {own : String} {nL d : Nat} {rty : Option FieldType} (C : CxC K cc own nL d rty) {σ : Mm} {k0 : Nat} {p1 : Int32} {p2 : Int32} {p3 : Int32} {τ : Mm} (h : f_X3_append σ k0 p1 p2 p3 = some τ) : CtV (kl K) (kD K) (ktys K) (kwf K) (kSt K) yX3_append cX3_append 4 0 σ [.ref (kAd K k0), .int p1, .int p2, .int p3] τ := cC_eq C (P := fun l D tys wf St => CtV l D tys wf St yX3_append cX3_append 4 0 σ [.ref (kAd K k0), .int p1, .int p2, .int p3] τ) (c_X3_append _ _ _ _ _ _ h)
def f_X5_marksMayBe (σ : Mm) (p0 : Int32) (p1 : Int32) : Option (Mm × Int32) :=
  bn1 ((if (p1 &&& 2) = 0 then some (σ, 0) else some (σ, 1)) : Option (Mm × Int32)) (fun σ1 w1_0 => bn1 ((if (p1 &&& 1) = 0 then some (σ1, 0) else some (σ1, 1)) : Option (Mm × Int32)) (fun σ2 w2_0 => (if w1_0 = 0 then some (σ2, 1) else (if p0 ≤ 0 then some (σ2, 0) else (if w2_0 = 0 then some (σ2, 1) else some (σ2, 0))))))
set_option maxHeartbeats 4000000 in
set_option maxRecDepth 100000 in
theorem w_X5_marksMayBe {K : Kx} (C : CxC K cX5_marksMayBe RX5 4 0 (some .boolean)) (σ : Mm) (p0 : Int32) (p1 : Int32) (hf : Sat (f_X5_marksMayBe σ p0 p1) (fun o => kRt K (some (.int o.2)) o.1)) : Gj K σ 0 [(0, .int p0), (1, .int p1)] [] := by
  unfold f_X5_marksMayBe at hf
  have B := C.1
  refine g_iload_n B dX5_marksMayBe_0 rfl 1 rfl ?_
  refine g_iconst (v := 2) B dX5_marksMayBe_1 (by decide) ?_
  refine g_iand B dX5_marksMayBe_2 ?_
  have hf := sat_cu1 (G := fun σ1 w1_0 => Gj K σ1 11 [(0, .int p0), (1, .int p1)] [.int w1_0]) hf (by
    intro σ1 w1_0 hf
    refine g_istore_n B [(0, .int p0), (1, .int p1), (2, .int w1_0)] dX5_marksMayBe_11 rfl (by decide) [1, 2, 0] rfl ?_
    refine g_iload_n B dX5_marksMayBe_12 rfl 1 rfl ?_
    refine g_iconst (v := 1) B dX5_marksMayBe_13 (by decide) ?_
    refine g_iand B dX5_marksMayBe_14 ?_
    have hf := sat_cu1 (G := fun σ2 w2_0 => Gj K σ2 23 [(0, .int p0), (2, .int w1_0)] [.int w2_0]) hf (by
      intro σ2 w2_0 hf
      refine g_istore_n B [(0, .int p0), (2, .int w1_0), (3, .int w2_0)] dX5_marksMayBe_23 rfl (by decide) [1, 2, 0] rfl ?_
      refine g_iload_n B dX5_marksMayBe_24 rfl 1 rfl ?_
      refine g_if_eq (tgt := 36) B dX5_marksMayBe_25 (by decide) (fun c3 => ?_) (fun c3 => ?_)
      · have hf := sat_t hf c3
        refine g_iconst (v := 1) B dX5_marksMayBe_36 (by decide) ?_
        refine g_goto (tgt := 41) B dX5_marksMayBe_37 (by decide) ?_
        have hf := sat_some hf
        exact g_iret B rfl rfl dX5_marksMayBe_41 hf
      · have hf := sat_f hf c3
        refine g_iload_n B dX5_marksMayBe_28 rfl 0 rfl ?_
        refine g_if_le (tgt := 40) B dX5_marksMayBe_29 (by decide) (fun c4 => ?_) (fun c4 => ?_)
        · have hf := sat_t hf c4
          refine g_iconst (v := 0) B dX5_marksMayBe_40 (by decide) ?_
          have hf := sat_some hf
          exact g_iret B rfl rfl dX5_marksMayBe_41 hf
        · have hf := sat_f hf c4
          refine g_iload_n B dX5_marksMayBe_32 rfl 2 rfl ?_
          refine g_if_ne (tgt := 40) B dX5_marksMayBe_33 (by decide) (fun c5 => ?_) (fun c5 => ?_)
          · have hf := sat_f hf c5
            refine g_iconst (v := 0) B dX5_marksMayBe_40 (by decide) ?_
            have hf := sat_some hf
            exact g_iret B rfl rfl dX5_marksMayBe_41 hf
          · have hf := sat_t hf c5
            refine g_iconst (v := 1) B dX5_marksMayBe_36 (by decide) ?_
            refine g_goto (tgt := 41) B dX5_marksMayBe_37 (by decide) ?_
            have hf := sat_some hf
            exact g_iret B rfl rfl dX5_marksMayBe_41 hf)
    refine g_if_eq (tgt := 22) B dX5_marksMayBe_15 (by decide) (fun c2 => ?_) (fun c2 => ?_)
    · have hf := sat_t hf c2
      refine g_iconst (v := 0) B dX5_marksMayBe_22 (by decide) ?_
      have hf := sat_some hf
      exact g_sub hf [0, 2] rfl
    · have hf := sat_f hf c2
      refine g_iconst (v := 1) B dX5_marksMayBe_18 (by decide) ?_
      refine g_goto (tgt := 23) B dX5_marksMayBe_19 (by decide) ?_
      have hf := sat_some hf
      exact g_sub hf [0, 2] rfl)
  refine g_if_eq (tgt := 10) B dX5_marksMayBe_3 (by decide) (fun c1 => ?_) (fun c1 => ?_)
  · have hf := sat_t hf c1
    refine g_iconst (v := 0) B dX5_marksMayBe_10 (by decide) ?_
    have hf := sat_some hf
    exact g_sub hf [0, 1] rfl
  · have hf := sat_f hf c1
    refine g_iconst (v := 1) B dX5_marksMayBe_6 (by decide) ?_
    refine g_goto (tgt := 11) B dX5_marksMayBe_7 (by decide) ?_
    have hf := sat_some hf
    exact g_sub hf [0, 1] rfl
theorem c_X5_marksMayBe (l : Launch) (D : va_G) (Ad : Nat → Nat) (cI cP cII : ClassId) {σ : Mm} {p0 : Int32} {p1 : Int32} {τ : Mm} {r : Int32} (h : f_X5_marksMayBe σ p0 p1 = some (τ, r)) : CtI l D (tysC cI cP cII) (wdC Ad cI cP cII) StC yX5_marksMayBe cX5_marksMayBe 4 .boolean 0 σ [.int p0, .int p1] (τ, r) := by
  refine metI (Ad := Ad) (cI := cI) (cP := cP) (cII := cII) (by decide) (Nat.le_of_ble_eq_true rfl) (wdG_ok _ _ _) stOK_C rfl (fun K C G hR => ?_)
  exact w_X5_marksMayBe (cC_of C G) σ p0 p1 ⟨_, h, by rw [hR]; exact ⟨rfl, rfl⟩⟩
theorem ck_X5_marksMayBe {K : Kx} {cc : ByteArray} {own : String} {nL d : Nat} {rty : Option FieldType} (C : CxC K cc own nL d rty) {σ : Mm} {p0 : Int32} {p1 : Int32} {τ : Mm} {r : Int32} (h : f_X5_marksMayBe σ p0 p1 = some (τ, r)) : CtI (kl K) (kD K) (ktys K) (kwf K) (kSt K) yX5_marksMayBe cX5_marksMayBe 4 .boolean 0 σ [.int p0, .int p1] (τ, r) := cC_eq C (P := fun l D tys wf St => CtI l D tys wf St yX5_marksMayBe cX5_marksMayBe 4 .boolean 0 σ [.int p0, .int p1] (τ, r)) (c_X5_marksMayBe _ _ _ _ _ _ h)
def f_X5_partAt (σ : Mm) (p1 : Int32) : Option (Mm × Option Nat) :=
  bn1 (f_X5_isOutside σ p1 0 2) (fun σ1 r1 => (if r1 = 0 then chk (inb p1 3) (some (σ1, some (31 + 15 * p1.toNatClampNeg))) else some (σ1, none)))
set_option maxHeartbeats 4000000 in
set_option maxRecDepth 100000 in
theorem w_X5_partAt {K : Kx} (C : CxC K cX5_partAt RX5 2 1 (some (.object "FourStrings$Part"))) (σ : Mm) (p1 : Int32) (hf : Sat (f_X5_partAt σ p1) (fun o => kRt K (some (va_rf (o.2.map (kAd K)))) o.1)) : Gj K σ 0 [(0, .ref (kAd K 0)), (1, .int p1)] [] := by
  unfold f_X5_partAt at hf
  have B := C.1
  refine g_iload_n B dX5_partAt_0 rfl 1 rfl ?_
  refine g_iconst (v := 0) B dX5_partAt_1 (by decide) ?_
  refine g_iconst (v := 2) B dX5_partAt_2 (by decide) ?_
  obtain ⟨σ1, r1, h1, hf⟩ := sat_ca1 hf
  refine g_cSI (rest := []) B (ck_X5_isOutside C h1) mo_X5_isOutside wm_RX5_27 (by decide) rfl rfl (Nat.le_of_ble_eq_true rfl) dX5_partAt_3 ?_
  refine g_if_eq (tgt := 13) B dX5_partAt_6 (by decide) (fun c2 => ?_) (fun c2 => ?_)
  · have hf := sat_t hf c2
    refine g_aload_n B dX5_partAt_13 rfl 0 rfl ?_
    refine c_get_F_parts C wf_RX5_16 dX5_partAt_14 ?_
    refine g_iload_n B dX5_partAt_17 rfl 1 rfl ?_
    obtain ⟨h3, hf⟩ := sat_chk hf
    refine c_aald2 C h3 dX5_partAt_18 ?_
    have hf := sat_some hf
    exact g_aret B rfl dX5_partAt_19 hf
  · have hf := sat_f hf c2
    refine g_null B dX5_partAt_9 ?_
    refine g_goto (tgt := 19) B dX5_partAt_10 (by decide) ?_
    have hf := sat_some hf
    exact g_aretN B rfl dX5_partAt_19 hf
theorem c_X5_partAt (l : Launch) (D : va_G) (Ad : Nat → Nat) (cI cP cII : ClassId) {σ : Mm} {p1 : Int32} {τ : Mm} {r : Option Nat} (h : f_X5_partAt σ p1 = some (τ, r)) : CtA l D (tysC cI cP cII) (wdC Ad cI cP cII) StC yX5_partAt cX5_partAt 2 (.object "FourStrings$Part") 1 σ [.ref (Ad 0), .int p1] (τ, r.map Ad) := by
  refine metA (Ad := Ad) (cI := cI) (cP := cP) (cII := cII) (by decide) (Nat.le_of_ble_eq_true rfl) (wdG_ok _ _ _) stOK_C rfl ⟨_, rfl⟩ (fun K C G hR => ?_)
  have e : kAd K = Ad := G.2.2.2.2.2.1
  have C2 := cC_of C G
  have h9 := w_X5_partAt C2 σ p1 ⟨_, h, by rw [hR]; exact ⟨by rw [e], rfl⟩⟩
  rw [e] at h9
  exact h9
theorem ck_X5_partAt {K : Kx} {cc : ByteArray} {own : String} {nL d : Nat} {rty : Option FieldType} (C : CxC K cc own nL d rty) {σ : Mm} {p1 : Int32} {τ : Mm} {r : Option Nat} (h : f_X5_partAt σ p1 = some (τ, r)) : CtA (kl K) (kD K) (ktys K) (kwf K) (kSt K) yX5_partAt cX5_partAt 2 (.object "FourStrings$Part") 1 σ [.ref (kAd K 0), .int p1] (τ, r.map (kAd K)) := cC_eq C (P := fun l D tys wf St => CtA l D tys wf St yX5_partAt cX5_partAt 2 (.object "FourStrings$Part") 1 σ [.ref (kAd K 0), .int p1] (τ, r.map (kAd K))) (c_X5_partAt _ _ _ _ _ _ h)
def f_X5_note (σ : Mm) (p1 : Int32) (p2 : Int32) (p3 : Int32) (p4 : Int32) : Option (Mm × Int32) :=
  bn1 (f_X5_partAt σ p1) (fun σ1 r1 => onul r1 (some (σ1, (-1))) (fun k1 => bn1 (f_X5_isOutside σ1 p2 0 80) (fun σ2 r2 => (if r2 = 0 then bn1 (f_X5_isOutside σ2 p3 1 16) (fun σ4 r4 => (if r4 = 0 then bn1 (f_X5_isOutside σ4 p4 0 15) (fun σ6 r6 => (if r6 = 0 then chk (kdC k1 == 2) (bn1 (f_X5_marksMayBe σ6 (σ6 k1 0) p4) (fun σ9 r9 => (if r9 = 0 then some (σ9, (-4)) else (if (σ9 k1 0) < 12 then bn0 (f_X3_append σ9 k1 p2 p3 p4) (fun σ12 => some (σ12, ((σ12 k1 0) - 1))) else some (σ9, (-2)))))) else some (σ6, (-1)))) else some (σ4, (-1)))) else some (σ2, (-1))))))
set_option maxHeartbeats 4000000 in
set_option maxRecDepth 100000 in
theorem w_X5_note {K : Kx} (C : CxC K cX5_note RX5 6 2 (some .int)) (σ : Mm) (p1 : Int32) (p2 : Int32) (p3 : Int32) (p4 : Int32) (hf : Sat (f_X5_note σ p1 p2 p3 p4) (fun o => kRt K (some (.int o.2)) o.1)) : Gj K σ 0 [(0, .ref (kAd K 0)), (1, .int p1), (2, .int p2), (3, .int p3), (4, .int p4)] [] := by
  unfold f_X5_note at hf
  have B := C.1
  refine g_aload_n B dX5_note_0 rfl 0 rfl ?_
  refine g_iload_n B dX5_note_1 rfl 1 rfl ?_
  obtain ⟨σ1, r1, h1, hf⟩ := sat_ca1 hf
  refine g_cVA (rest := []) B (ck_X5_partAt C h1) mo_X5_partAt wm_RX5_35 (by decide) (cC_o3 C) rfl rfl rfl (Nat.le_of_ble_eq_true rfl) dX5_note_2 ?_
  cases r1 with
  | none =>
    have hf := sat_on0 hf
    show Gj K σ1 5 [(0, .ref (kAd K 0)), (1, .int p1), (2, .int p2), (3, .int p3), (4, .int p4)] [.null]
    refine g_astoreN B [(0, .ref (kAd K 0)), (1, .int p1), (2, .int p2), (3, .int p3), (4, .int p4), (5, .null)] dX5_note_5 (by decide) [1, 2, 3, 4, 5, 0] rfl ?_
    refine g_aloadN B dX5_note_7 5 rfl ?_
    refine g_ifnullN (tgt := 43) B dX5_note_9 (by decide) ?_
    refine g_iconst (v := (-1)) B dX5_note_43 (by decide) ?_
    have hf := sat_some hf
    exact g_iret B rfl rfl dX5_note_44 hf
  | some k1 =>
    have hf := sat_on1 hf
    show Gj K σ1 5 [(0, .ref (kAd K 0)), (1, .int p1), (2, .int p2), (3, .int p3), (4, .int p4)] [.ref (kAd K k1)]
    refine g_astore B [(0, .ref (kAd K 0)), (1, .int p1), (2, .int p2), (3, .int p3), (4, .int p4), (5, .ref (kAd K k1))] dX5_note_5 (by decide) [1, 2, 3, 4, 5, 0] rfl ?_
    refine g_aload B dX5_note_7 5 rfl ?_
    refine g_ifnull B dX5_note_9 ?_
    refine g_iload_n B dX5_note_12 rfl 2 rfl ?_
    refine g_iconst (v := 0) B dX5_note_13 (by decide) ?_
    refine g_bipush (v := 80) B dX5_note_14 (by decide) ?_
    obtain ⟨σ2, r2, h2, hf⟩ := sat_ca1 hf
    refine g_cSI (rest := []) B (ck_X5_isOutside C h2) mo_X5_isOutside wm_RX5_27 (by decide) rfl rfl (Nat.le_of_ble_eq_true rfl) dX5_note_16 ?_
    refine g_if_ne (tgt := 43) B dX5_note_19 (by decide) (fun c3 => ?_) (fun c3 => ?_)
    · have hf := sat_f hf c3
      refine g_iconst (v := (-1)) B dX5_note_43 (by decide) ?_
      have hf := sat_some hf
      exact g_iret B rfl rfl dX5_note_44 hf
    · have hf := sat_t hf c3
      refine g_iload_n B dX5_note_22 rfl 3 rfl ?_
      refine g_iconst (v := 1) B dX5_note_23 (by decide) ?_
      refine g_bipush (v := 16) B dX5_note_24 (by decide) ?_
      obtain ⟨σ4, r4, h4, hf⟩ := sat_ca1 hf
      refine g_cSI (rest := []) B (ck_X5_isOutside C h4) mo_X5_isOutside wm_RX5_27 (by decide) rfl rfl (Nat.le_of_ble_eq_true rfl) dX5_note_26 ?_
      refine g_if_ne (tgt := 43) B dX5_note_29 (by decide) (fun c5 => ?_) (fun c5 => ?_)
      · have hf := sat_f hf c5
        refine g_iconst (v := (-1)) B dX5_note_43 (by decide) ?_
        have hf := sat_some hf
        exact g_iret B rfl rfl dX5_note_44 hf
      · have hf := sat_t hf c5
        refine g_iload B dX5_note_32 4 rfl ?_
        refine g_iconst (v := 0) B dX5_note_34 (by decide) ?_
        refine g_bipush (v := 15) B dX5_note_35 (by decide) ?_
        obtain ⟨σ6, r6, h6, hf⟩ := sat_ca1 hf
        refine g_cSI (rest := []) B (ck_X5_isOutside C h6) mo_X5_isOutside wm_RX5_27 (by decide) rfl rfl (Nat.le_of_ble_eq_true rfl) dX5_note_37 ?_
        refine g_if_eq (tgt := 45) B dX5_note_40 (by decide) (fun c7 => ?_) (fun c7 => ?_)
        · have hf := sat_t hf c7
          refine g_aload B dX5_note_45 5 rfl ?_
          obtain ⟨h8, hf⟩ := sat_chk hf
          refine c_get_P_count C (eq_of_beq h8) wf_RX5_39 dX5_note_47 ?_
          refine g_iload B dX5_note_50 4 rfl ?_
          obtain ⟨σ9, r9, h9, hf⟩ := sat_ca1 hf
          refine g_cSI (rest := []) B (ck_X5_marksMayBe C h9) mo_X5_marksMayBe wm_RX5_43 (by decide) rfl rfl (Nat.le_of_ble_eq_true rfl) dX5_note_52 ?_
          refine g_if_ne (tgt := 61) B dX5_note_55 (by decide) (fun c10 => ?_) (fun c10 => ?_)
          · have hf := sat_f hf c10
            refine g_aload B dX5_note_61 5 rfl ?_
            refine c_get_P_count C (eq_of_beq h8) wf_RX5_39 dX5_note_63 ?_
            refine g_bipush (v := 12) B dX5_note_66 (by decide) ?_
            refine g_icmp_lt (tgt := 74) B dX5_note_68 (by decide) (fun c11 => ?_) (fun c11 => ?_)
            · have hf := sat_t hf c11
              refine g_aload B dX5_note_74 5 rfl ?_
              refine g_iload_n B dX5_note_76 rfl 2 rfl ?_
              refine g_iload_n B dX5_note_77 rfl 3 rfl ?_
              refine g_iload B dX5_note_78 4 rfl ?_
              obtain ⟨σ12, h12, hf⟩ := sat_ca0 hf
              refine g_cVV (rest := []) B (ck_X3_append C h12) mo_X3_append wm_RX5_47 (by decide) (cC_o2 C (eq_of_beq h8)) rfl rfl rfl (Nat.le_of_ble_eq_true rfl) dX5_note_80 ?_
              refine g_aload B dX5_note_83 5 rfl ?_
              refine c_get_P_count C (eq_of_beq h8) wf_RX5_39 dX5_note_85 ?_
              refine g_iconst (v := 1) B dX5_note_88 (by decide) ?_
              refine g_isub B dX5_note_89 ?_
              have hf := sat_some hf
              exact g_iret B rfl rfl dX5_note_90 hf
            · have hf := sat_f hf c11
              refine g_bipush (v := (-2)) B dX5_note_71 (by decide) ?_
              have hf := sat_some hf
              exact g_iret B rfl rfl dX5_note_73 hf
          · have hf := sat_t hf c10
            refine g_bipush (v := (-4)) B dX5_note_58 (by decide) ?_
            have hf := sat_some hf
            exact g_iret B rfl rfl dX5_note_60 hf
        · have hf := sat_f hf c7
          refine g_iconst (v := (-1)) B dX5_note_43 (by decide) ?_
          have hf := sat_some hf
          exact g_iret B rfl rfl dX5_note_44 hf
theorem c_X5_note (l : Launch) (D : va_G) (Ad : Nat → Nat) (cI cP cII : ClassId) {σ : Mm} {p1 : Int32} {p2 : Int32} {p3 : Int32} {p4 : Int32} {τ : Mm} {r : Int32} (h : f_X5_note σ p1 p2 p3 p4 = some (τ, r)) : CtI l D (tysC cI cP cII) (wdC Ad cI cP cII) StC yX5_note cX5_note 6 .int 2 σ [.ref (Ad 0), .int p1, .int p2, .int p3, .int p4] (τ, r) := by
  refine metI (Ad := Ad) (cI := cI) (cP := cP) (cII := cII) (by decide) (Nat.le_of_ble_eq_true rfl) (wdG_ok _ _ _) stOK_C rfl (fun K C G hR => ?_)
  have e : kAd K = Ad := G.2.2.2.2.2.1
  have C2 := cC_of C G
  have h9 := w_X5_note C2 σ p1 p2 p3 p4 ⟨_, h, by rw [hR]; exact ⟨rfl, rfl⟩⟩
  rw [e] at h9
  exact h9
theorem ck_X5_note {K : Kx} {cc : ByteArray} {own : String} {nL d : Nat} {rty : Option FieldType} (C : CxC K cc own nL d rty) {σ : Mm} {p1 : Int32} {p2 : Int32} {p3 : Int32} {p4 : Int32} {τ : Mm} {r : Int32} (h : f_X5_note σ p1 p2 p3 p4 = some (τ, r)) : CtI (kl K) (kD K) (ktys K) (kwf K) (kSt K) yX5_note cX5_note 6 .int 2 σ [.ref (kAd K 0), .int p1, .int p2, .int p3, .int p4] (τ, r) := cC_eq C (P := fun l D tys wf St => CtI l D tys wf St yX5_note cX5_note 6 .int 2 σ [.ref (kAd K 0), .int p1, .int p2, .int p3, .int p4] (τ, r)) (c_X5_note _ _ _ _ _ _ h)
def f_X5_partWith (σ : Mm) (p1 : Int32) (p2 : Int32) : Option (Mm × Option Nat) :=
  bn1 (f_X5_partAt σ p1) (fun σ1 r1 => onul r1 (some (σ1, none)) (fun k1 => chk (kdC k1 == 2) (bn1 (f_X5_isOutside σ1 p2 0 ((σ1 k1 0) - 1)) (fun σ3 r3 => (if r3 = 0 then some (σ3, some k1) else some (σ3, none))))))
set_option maxHeartbeats 4000000 in
set_option maxRecDepth 100000 in
theorem w_X5_partWith {K : Kx} (C : CxC K cX5_partWith RX5 4 2 (some (.object "FourStrings$Part"))) (σ : Mm) (p1 : Int32) (p2 : Int32) (hf : Sat (f_X5_partWith σ p1 p2) (fun o => kRt K (some (va_rf (o.2.map (kAd K)))) o.1)) : Gj K σ 0 [(0, .ref (kAd K 0)), (1, .int p1), (2, .int p2)] [] := by
  unfold f_X5_partWith at hf
  have B := C.1
  refine g_aload_n B dX5_partWith_0 rfl 0 rfl ?_
  refine g_iload_n B dX5_partWith_1 rfl 1 rfl ?_
  obtain ⟨σ1, r1, h1, hf⟩ := sat_ca1 hf
  refine g_cVA (rest := []) B (ck_X5_partAt C h1) mo_X5_partAt wm_RX5_35 (by decide) (cC_o3 C) rfl rfl rfl (Nat.le_of_ble_eq_true rfl) dX5_partWith_2 ?_
  cases r1 with
  | none =>
    have hf := sat_on0 hf
    show Gj K σ1 5 [(0, .ref (kAd K 0)), (1, .int p1), (2, .int p2)] [.null]
    refine g_astore_nN B [(0, .ref (kAd K 0)), (1, .int p1), (2, .int p2), (3, .null)] dX5_partWith_5 rfl (by decide) [1, 2, 3, 0] rfl ?_
    refine g_aload_nN B dX5_partWith_6 rfl 3 rfl ?_
    refine g_ifnullN (tgt := 24) B dX5_partWith_7 (by decide) ?_
    refine g_null B dX5_partWith_24 ?_
    refine g_goto (tgt := 29) B dX5_partWith_25 (by decide) ?_
    have hf := sat_some hf
    exact g_aretN B rfl dX5_partWith_29 hf
  | some k1 =>
    have hf := sat_on1 hf
    show Gj K σ1 5 [(0, .ref (kAd K 0)), (1, .int p1), (2, .int p2)] [.ref (kAd K k1)]
    refine g_astore_n B [(0, .ref (kAd K 0)), (1, .int p1), (2, .int p2), (3, .ref (kAd K k1))] dX5_partWith_5 rfl (by decide) [1, 2, 3, 0] rfl ?_
    refine g_aload_n B dX5_partWith_6 rfl 3 rfl ?_
    refine g_ifnull B dX5_partWith_7 ?_
    refine g_iload_n B dX5_partWith_10 rfl 2 rfl ?_
    refine g_iconst (v := 0) B dX5_partWith_11 (by decide) ?_
    refine g_aload_n B dX5_partWith_12 rfl 3 rfl ?_
    obtain ⟨h2, hf⟩ := sat_chk hf
    refine c_get_P_count C (eq_of_beq h2) wf_RX5_39 dX5_partWith_13 ?_
    refine g_iconst (v := 1) B dX5_partWith_16 (by decide) ?_
    refine g_isub B dX5_partWith_17 ?_
    obtain ⟨σ3, r3, h3, hf⟩ := sat_ca1 hf
    refine g_cSI (rest := []) B (ck_X5_isOutside C h3) mo_X5_isOutside wm_RX5_27 (by decide) rfl rfl (Nat.le_of_ble_eq_true rfl) dX5_partWith_18 ?_
    refine g_if_eq (tgt := 28) B dX5_partWith_21 (by decide) (fun c4 => ?_) (fun c4 => ?_)
    · have hf := sat_t hf c4
      refine g_aload_n B dX5_partWith_28 rfl 3 rfl ?_
      have hf := sat_some hf
      exact g_aret B rfl dX5_partWith_29 hf
    · have hf := sat_f hf c4
      refine g_null B dX5_partWith_24 ?_
      refine g_goto (tgt := 29) B dX5_partWith_25 (by decide) ?_
      have hf := sat_some hf
      exact g_aretN B rfl dX5_partWith_29 hf
theorem c_X5_partWith (l : Launch) (D : va_G) (Ad : Nat → Nat) (cI cP cII : ClassId) {σ : Mm} {p1 : Int32} {p2 : Int32} {τ : Mm} {r : Option Nat} (h : f_X5_partWith σ p1 p2 = some (τ, r)) : CtA l D (tysC cI cP cII) (wdC Ad cI cP cII) StC yX5_partWith cX5_partWith 4 (.object "FourStrings$Part") 2 σ [.ref (Ad 0), .int p1, .int p2] (τ, r.map Ad) := by
  refine metA (Ad := Ad) (cI := cI) (cP := cP) (cII := cII) (by decide) (Nat.le_of_ble_eq_true rfl) (wdG_ok _ _ _) stOK_C rfl ⟨_, rfl⟩ (fun K C G hR => ?_)
  have e : kAd K = Ad := G.2.2.2.2.2.1
  have C2 := cC_of C G
  have h9 := w_X5_partWith C2 σ p1 p2 ⟨_, h, by rw [hR]; exact ⟨by rw [e], rfl⟩⟩
  rw [e] at h9
  exact h9
theorem ck_X5_partWith {K : Kx} {cc : ByteArray} {own : String} {nL d : Nat} {rty : Option FieldType} (C : CxC K cc own nL d rty) {σ : Mm} {p1 : Int32} {p2 : Int32} {τ : Mm} {r : Option Nat} (h : f_X5_partWith σ p1 p2 = some (τ, r)) : CtA (kl K) (kD K) (ktys K) (kwf K) (kSt K) yX5_partWith cX5_partWith 4 (.object "FourStrings$Part") 2 σ [.ref (kAd K 0), .int p1, .int p2] (τ, r.map (kAd K)) := cC_eq C (P := fun l D tys wf St => CtA l D tys wf St yX5_partWith cX5_partWith 4 (.object "FourStrings$Part") 2 σ [.ref (kAd K 0), .int p1, .int p2] (τ, r.map (kAd K))) (c_X5_partWith _ _ _ _ _ _ h)
