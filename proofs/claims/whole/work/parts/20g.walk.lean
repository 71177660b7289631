def f_X0_work_t34 (k0 : Nat) (k1a : Nat) (p2 : Int32) (σ6 : Mm) : Option (Mm) :=
  bn0 (f_X0_reckonBehind σ6 k0 k1a) (fun σ7 => bn1 ((if p2 = 0 then chk (inC (k0 + 2) 0) (some (σ7, (σ7 (k0 + 2) (0 : Int32).toNatClampNeg))) else chk (inC (k0 + 3) 0) (some (σ7, (σ7 (k0 + 3) (0 : Int32).toNatClampNeg)))) : Option (Mm × Int32)) (fun σ8 w8_0 => nm (ms σ8 k0 0 w8_0) (fun σ9 => bn0 (f_X0_follow σ9 k0 k1a p2) (fun σ10 => some σ10))))
def f_X0_work (σ : Mm) (k0 : Nat) (k1a : Nat) (p2 : Int32) : Option (Mm) :=
  chk (kdC k0 == 0) (nm (ms σ k0 0 0) (fun σ2 => chk (kdC k1a == 2) ((if 0 < (σ2 k1a 0) then (if p2 = 1 then bn1 (f_X3_isMarked σ2 k1a 0 4) (fun σ13 r13 => (if r13 = 0 then (f_X0_work_t34 k0 k1a p2 σ13) else nm (ms σ13 k0 0 1000000) (fun σ15 => some σ15))) else (f_X0_work_t34 k0 k1a p2 σ2)) else some σ2))))
set_option maxHeartbeats 4000000 in
set_option maxRecDepth 100000 in
theorem w_X0_work {K : Kx} (C : CxC K cX0_work RX0 3 4 none) (σ : Mm) (k0 : Nat) (k1a : Nat) (p2 : Int32) (hf : Sat (f_X0_work σ k0 k1a p2) (fun o => kRt K none o)) : Gj K σ 0 [(0, .ref (kAd K k0)), (1, .ref (kAd K k1a)), (2, .int p2)] [] := by
  unfold f_X0_work at hf
  have B := C.1
  refine g_aload_n B dX0_work_0 rfl 0 rfl ?_
  refine g_iconst (v := 0) B dX0_work_1 (by decide) ?_
  obtain ⟨h1, hf⟩ := sat_chk hf
  obtain ⟨σ2, e2, hf⟩ := sat_nm hf
  refine c_put_B_cost C (eq_of_beq h1) wf_RX0_21 dX0_work_2 (g_mem2 e2 ?_)
  refine g_aload_n B dX0_work_5 rfl 1 rfl ?_
  obtain ⟨h3, hf⟩ := sat_chk hf
  refine c_get_P_count C (eq_of_beq h3) wf_RX0_26 dX0_work_6 ?_
  refine g_if_gt (tgt := 13) B dX0_work_9 (by decide) (fun c4 => ?_) (fun c4 => ?_)
  · have hf := sat_t hf c4
    refine g_iload_n B dX0_work_13 rfl 2 rfl ?_
    refine g_iconst (v := 1) B dX0_work_14 (by decide) ?_
    refine sat_P hf (fun P6 eP6 hf => ?_)
    have hk6 : ∀ (σ6 : Mm), Sat (f_X0_work_t34 k0 k1a p2 σ6) P6 → Gj K σ6 34 [(0, .ref (kAd K k0)), (1, .ref (kAd K k1a)), (2, .int p2)] [] := by
      intro σ6 hf
      rw [eP6] at hf
      unfold f_X0_work_t34 at hf
      refine g_aload_n B dX0_work_34 rfl 0 rfl ?_
      refine g_aload_n B dX0_work_35 rfl 1 rfl ?_
      obtain ⟨σ7, h7, hf⟩ := sat_ca0 hf
      refine g_cVV (rest := []) B (ck_X0_reckonBehind C h7) mo_X0_reckonBehind wm_RX0_35 (by decide) (cC_o0 C (eq_of_beq h1)) rfl rfl rfl (Nat.le_of_ble_eq_true rfl) dX0_work_36 ?_
      refine g_aload_n B dX0_work_39 rfl 0 rfl ?_
      refine g_iload_n B dX0_work_40 rfl 2 rfl ?_
      have hf := sat_cu1 (G := fun σ8 w8_0 => Gj K σ8 59 [(0, .ref (kAd K k0)), (1, .ref (kAd K k1a)), (2, .int p2)] [.int w8_0, .ref (kAd K k0)]) hf (by
        intro σ8 w8_0 hf
        obtain ⟨σ9, e9, hf⟩ := sat_nm hf
        refine c_put_B_cost C (eq_of_beq h1) wf_RX0_21 dX0_work_59 (g_mem2 e9 ?_)
        refine g_aload_n B dX0_work_62 rfl 0 rfl ?_
        refine g_aload_n B dX0_work_63 rfl 1 rfl ?_
        refine g_iload_n B dX0_work_64 rfl 2 rfl ?_
        obtain ⟨σ10, h10, hf⟩ := sat_ca0 hf
        refine g_cVV (rest := []) B (ck_X0_follow C h10) mo_X0_follow wm_RX0_39 (by decide) (cC_o0 C (eq_of_beq h1)) rfl rfl rfl (Nat.le_of_ble_eq_true rfl) dX0_work_65 ?_
        have hf := sat_some hf
        exact g_vret B rfl dX0_work_68 hf)
      refine g_if_ne (tgt := 53) B dX0_work_41 (by decide) (fun c8 => ?_) (fun c8 => ?_)
      · have hf := sat_f hf c8
        refine g_aload_n B dX0_work_53 rfl 0 rfl ?_
        refine c_get_B_behindUp C (eq_of_beq h1) wf_RX0_18 dX0_work_54 ?_
        refine g_iconst (v := 0) B dX0_work_57 (by decide) ?_
        obtain ⟨h11, hf⟩ := sat_chk hf
        refine c_iald C h11 dX0_work_58 ?_
        have hf := sat_some hf
        exact g_sub hf [0, 1, 2] rfl
      · have hf := sat_t hf c8
        refine g_aload_n B dX0_work_44 rfl 0 rfl ?_
        refine c_get_B_behindDown C (eq_of_beq h1) wf_RX0_15 dX0_work_45 ?_
        refine g_iconst (v := 0) B dX0_work_48 (by decide) ?_
        obtain ⟨h12, hf⟩ := sat_chk hf
        refine c_iald C h12 dX0_work_49 ?_
        refine g_goto (tgt := 59) B dX0_work_50 (by decide) ?_
        have hf := sat_some hf
        exact g_sub hf [0, 1, 2] rfl
    subst eP6
    refine g_icmp_ne (tgt := 34) B dX0_work_15 (by decide) (fun c5 => ?_) (fun c5 => ?_)
    · have hf := sat_f hf c5
      have hf := hk6 σ2 hf
      exact g_sub hf [0, 1, 2] rfl
    · have hf := sat_t hf c5
      refine g_aload_n B dX0_work_18 rfl 1 rfl ?_
      refine g_iconst (v := 0) B dX0_work_19 (by decide) ?_
      refine g_iconst (v := 4) B dX0_work_20 (by decide) ?_
      obtain ⟨σ13, r13, h13, hf⟩ := sat_ca1 hf
      refine g_cVI (rest := []) B (ck_X3_isMarked C h13) mo_X3_isMarked wm_RX0_31 (by decide) (cC_o2 C (eq_of_beq h3)) rfl rfl rfl (Nat.le_of_ble_eq_true rfl) dX0_work_21 ?_
      refine g_if_eq (tgt := 34) B dX0_work_24 (by decide) (fun c14 => ?_) (fun c14 => ?_)
      · have hf := sat_t hf c14
        have hf := hk6 σ13 hf
        exact g_sub hf [0, 1, 2] rfl
      · have hf := sat_f hf c14
        refine g_aload_n B dX0_work_27 rfl 0 rfl ?_
        refine g_ldc B wk_RX0_25 dX0_work_28 ?_
        obtain ⟨σ15, e15, hf⟩ := sat_nm hf
        refine c_put_B_cost C (eq_of_beq h1) wf_RX0_21 dX0_work_30 (g_mem2 e15 ?_)
        have hf := sat_some hf
        exact g_vret B rfl dX0_work_33 hf
  · have hf := sat_f hf c4
    have hf := sat_some hf
    exact g_vret B rfl dX0_work_12 hf
theorem c_X0_work (l : Launch) (D : va_G) (Ad : Nat → Nat) (cI cP cII : ClassId) {σ : Mm} {k0 : Nat} {k1a : Nat} {p2 : Int32} {τ : Mm} (h : f_X0_work σ k0 k1a p2 = some τ) : CtV l D (tysC cI cP cII) (wdC Ad cI cP cII) StC yX0_work cX0_work 3 4 σ [.ref (Ad k0), .ref (Ad k1a), .int p2] τ := by
  refine metV (Ad := Ad) (cI := cI) (cP := cP) (cII := cII) (by decide) (Nat.le_of_ble_eq_true rfl) (wdG_ok _ _ _) stOK_C rfl (fun K C G hR => ?_)
  have e : kAd K = Ad := G.2.2.2.2.2.1
  have C2 := cC_of C G
  have h9 := w_X0_work C2 σ k0 k1a p2 ⟨_, h, by rw [hR]; exact ⟨rfl, rfl⟩⟩
  rw [e] at h9
  exact h9
theorem ck_X0_work {K : Kx} {cc : ByteArray} {own : String} {nL d : Nat} {rty : Option FieldType} (C : CxC K cc own nL d rty) {σ : Mm} {k0 : Nat} {k1a : Nat} {p2 : Int32} {τ : Mm} (h : f_X0_work σ k0 k1a p2 = some τ) : CtV (kl K) (kD K) (ktys K) (kwf K) (kSt K) yX0_work cX0_work 3 4 σ [.ref (kAd K k0), .ref (kAd K k1a), .int p2] τ := cC_eq C (P := fun l D tys wf St => CtV l D tys wf St yX0_work cX0_work 3 4 σ [.ref (kAd K k0), .ref (kAd K k1a), .int p2] τ) (c_X0_work _ _ _ _ _ _ h)
def f_X3_bowingFrom (σ : Mm) (k0 : Nat) (p1 : Int32) : Option (Mm × Option Nat) :=
  (if p1 = 0 then chk (kdC k0 == 2) (some (σ, some (k0 + 7))) else chk (kdC k0 == 2) (some (σ, some (k0 + 11))))
set_option maxHeartbeats 4000000 in
set_option maxRecDepth 100000 in
theorem w_X3_bowingFrom {K : Kx} (C : CxC K cX3_bowingFrom RX3 2 0 (some (.object "FourStrings$Bowing"))) (σ : Mm) (k0 : Nat) (p1 : Int32) (hf : Sat (f_X3_bowingFrom σ k0 p1) (fun o => kRt K (some (va_rf (o.2.map (kAd K)))) o.1)) : Gj K σ 0 [(0, .ref (kAd K k0)), (1, .int p1)] [] := by
  unfold f_X3_bowingFrom at hf
  have B := C.1
  refine g_iload_n B dX3_bowingFrom_0 rfl 1 rfl ?_
  refine g_if_ne (tgt := 11) B dX3_bowingFrom_1 (by decide) (fun c1 => ?_) (fun c1 => ?_)
  · have hf := sat_f hf c1
    refine g_aload_n B dX3_bowingFrom_11 rfl 0 rfl ?_
    obtain ⟨h2, hf⟩ := sat_chk hf
    refine c_get_P_up C (eq_of_beq h2) wf_RX3_37 dX3_bowingFrom_12 ?_
    have hf := sat_some hf
    exact g_aret B rfl dX3_bowingFrom_15 hf
  · have hf := sat_t hf c1
    refine g_aload_n B dX3_bowingFrom_4 rfl 0 rfl ?_
    obtain ⟨h3, hf⟩ := sat_chk hf
    refine c_get_P_down C (eq_of_beq h3) wf_RX3_33 dX3_bowingFrom_5 ?_
    refine g_goto (tgt := 15) B dX3_bowingFrom_8 (by decide) ?_
    have hf := sat_some hf
    exact g_aret B rfl dX3_bowingFrom_15 hf
theorem c_X3_bowingFrom (l : Launch) (D : va_G) (Ad : Nat → Nat) (cI cP cII : ClassId) {σ : Mm} {k0 : Nat} {p1 : Int32} {τ : Mm} {r : Option Nat} (h : f_X3_bowingFrom σ k0 p1 = some (τ, r)) : CtA l D (tysC cI cP cII) (wdC Ad cI cP cII) StC yX3_bowingFrom cX3_bowingFrom 2 (.object "FourStrings$Bowing") 0 σ [.ref (Ad k0), .int p1] (τ, r.map Ad) := by
  refine metA (Ad := Ad) (cI := cI) (cP := cP) (cII := cII) (by decide) (Nat.le_of_ble_eq_true rfl) (wdG_ok _ _ _) stOK_C rfl ⟨_, rfl⟩ (fun K C G hR => ?_)
  have e : kAd K = Ad := G.2.2.2.2.2.1
  have C2 := cC_of C G
  have h9 := w_X3_bowingFrom C2 σ k0 p1 ⟨_, h, by rw [hR]; exact ⟨by rw [e], rfl⟩⟩
  rw [e] at h9
  exact h9
theorem ck_X3_bowingFrom {K : Kx} {cc : ByteArray} {own : String} {nL d : Nat} {rty : Option FieldType} (C : CxC K cc own nL d rty) {σ : Mm} {k0 : Nat} {p1 : Int32} {τ : Mm} {r : Option Nat} (h : f_X3_bowingFrom σ k0 p1 = some (τ, r)) : CtA (kl K) (kD K) (ktys K) (kwf K) (kSt K) yX3_bowingFrom cX3_bowingFrom 2 (.object "FourStrings$Bowing") 0 σ [.ref (kAd K k0), .int p1] (τ, r.map (kAd K)) := cC_eq C (P := fun l D tys wf St => CtA l D tys wf St yX3_bowingFrom cX3_bowingFrom 2 (.object "FourStrings$Bowing") 0 σ [.ref (kAd K k0), .int p1] (τ, r.map (kAd K))) (c_X3_bowingFrom _ _ _ _ _ _ h)
def f_X5_bow (σ : Mm) (p1 : Int32) (p2 : Int32) : Option (Mm × Int32) :=
  bn1 (f_X5_partAt σ p1) (fun σ1 r1 => onul r1 (some (σ1, (-1))) (fun k1 => bn1 (f_X5_isOutside σ1 p2 0 1) (fun σ2 r2 => (if r2 = 0 then chk (kdC k1 == 2) (bn1 (f_X3_bowingFrom σ2 k1 p2) (fun σ4 r4 => onul r4 (none) (fun k4 => chk (kdC k4 == 0) (bn0 (f_X0_work σ4 k4 k1 p2) (fun σ6 => bn1 (f_X0_isThere σ6 k4) (fun σ8 r8 => (if r8 = 0 then some (σ8, (-3)) else some (σ8, (σ8 k4 0))))))))) else some (σ2, (-1))))))
set_option maxHeartbeats 4000000 in
set_option maxRecDepth 100000 in
theorem w_X5_bow {K : Kx} (C : CxC K cX5_bow RX5 5 5 (some .int)) (σ : Mm) (p1 : Int32) (p2 : Int32) (hf : Sat (f_X5_bow σ p1 p2) (fun o => kRt K (some (.int o.2)) o.1)) : Gj K σ 0 [(0, .ref (kAd K 0)), (1, .int p1), (2, .int p2)] [] := by
  unfold f_X5_bow at hf
  have B := C.1
  refine g_aload_n B dX5_bow_0 rfl 0 rfl ?_
  refine g_iload_n B dX5_bow_1 rfl 1 rfl ?_
  obtain ⟨σ1, r1, h1, hf⟩ := sat_ca1 hf
  refine g_cVA (rest := []) B (ck_X5_partAt C h1) mo_X5_partAt wm_RX5_35 (by decide) (cC_o3 C) rfl rfl rfl (Nat.le_of_ble_eq_true rfl) dX5_bow_2 ?_
  cases r1 with
  | none =>
    have hf := sat_on0 hf
    show Gj K σ1 5 [(0, .ref (kAd K 0)), (1, .int p1), (2, .int p2)] [.null]
    refine g_astore_nN B [(0, .ref (kAd K 0)), (1, .int p1), (2, .int p2), (3, .null)] dX5_bow_5 rfl (by decide) [1, 2, 3, 0] rfl ?_
    refine g_aload_nN B dX5_bow_6 rfl 3 rfl ?_
    refine g_ifnullN (tgt := 19) B dX5_bow_7 (by decide) ?_
    refine g_iconst (v := (-1)) B dX5_bow_19 (by decide) ?_
    have hf := sat_some hf
    exact g_iret B rfl rfl dX5_bow_20 hf
  | some k1 =>
    have hf := sat_on1 hf
    show Gj K σ1 5 [(0, .ref (kAd K 0)), (1, .int p1), (2, .int p2)] [.ref (kAd K k1)]
    refine g_astore_n B [(0, .ref (kAd K 0)), (1, .int p1), (2, .int p2), (3, .ref (kAd K k1))] dX5_bow_5 rfl (by decide) [1, 2, 3, 0] rfl ?_
    refine g_aload_n B dX5_bow_6 rfl 3 rfl ?_
    refine g_ifnull B dX5_bow_7 ?_
    refine g_iload_n B dX5_bow_10 rfl 2 rfl ?_
    refine g_iconst (v := 0) B dX5_bow_11 (by decide) ?_
    refine g_iconst (v := 1) B dX5_bow_12 (by decide) ?_
    obtain ⟨σ2, r2, h2, hf⟩ := sat_ca1 hf
    refine g_cSI (rest := []) B (ck_X5_isOutside C h2) mo_X5_isOutside wm_RX5_27 (by decide) rfl rfl (Nat.le_of_ble_eq_true rfl) dX5_bow_13 ?_
    refine g_if_eq (tgt := 21) B dX5_bow_16 (by decide) (fun c3 => ?_) (fun c3 => ?_)
    · have hf := sat_t hf c3
      refine g_aload_n B dX5_bow_21 rfl 3 rfl ?_
      refine g_iload_n B dX5_bow_22 rfl 2 rfl ?_
      obtain ⟨h5, hf⟩ := sat_chk hf
      obtain ⟨σ4, r4, h4, hf⟩ := sat_ca1 hf
      refine g_cVA (rest := []) B (ck_X3_bowingFrom C h4) mo_X3_bowingFrom wm_RX5_121 (by decide) (cC_o2 C (eq_of_beq h5)) rfl rfl rfl (Nat.le_of_ble_eq_true rfl) dX5_bow_23 ?_
      cases r4 with
      | none =>
        exact (sat_none (sat_on0 hf)).elim
      | some k4 =>
        have hf := sat_on1 hf
        show Gj K σ4 26 [(0, .ref (kAd K 0)), (1, .int p1), (2, .int p2), (3, .ref (kAd K k1))] [.ref (kAd K k4)]
        refine g_astore B [(0, .ref (kAd K 0)), (1, .int p1), (2, .int p2), (3, .ref (kAd K k1)), (4, .ref (kAd K k4))] dX5_bow_26 (by decide) [1, 2, 3, 4, 0] rfl ?_
        refine g_aload B dX5_bow_28 4 rfl ?_
        refine g_aload_n B dX5_bow_30 rfl 3 rfl ?_
        refine g_iload_n B dX5_bow_31 rfl 2 rfl ?_
        obtain ⟨h7, hf⟩ := sat_chk hf
        obtain ⟨σ6, h6, hf⟩ := sat_ca0 hf
        refine g_cVV (rest := []) B (ck_X0_work C h6) mo_X0_work wm_RX5_125 (by decide) (cC_o0 C (eq_of_beq h7)) rfl rfl rfl (Nat.le_of_ble_eq_true rfl) dX5_bow_32 ?_
        refine g_aload B dX5_bow_35 4 rfl ?_
        obtain ⟨σ8, r8, h8, hf⟩ := sat_ca1 hf
        refine g_cVI (rest := []) B (ck_X0_isThere C h8) mo_X0_isThere wm_RX5_131 (by decide) (cC_o0 C (eq_of_beq h7)) rfl rfl rfl (Nat.le_of_ble_eq_true rfl) dX5_bow_37 ?_
        refine g_if_eq (tgt := 51) B dX5_bow_40 (by decide) (fun c9 => ?_) (fun c9 => ?_)
        · have hf := sat_t hf c9
          refine g_bipush (v := (-3)) B dX5_bow_51 (by decide) ?_
          have hf := sat_some hf
          exact g_iret B rfl rfl dX5_bow_53 hf
        · have hf := sat_f hf c9
          refine g_aload B dX5_bow_43 4 rfl ?_
          refine c_get_B_cost C (eq_of_beq h7) wf_RX5_135 dX5_bow_45 ?_
          refine g_goto (tgt := 53) B dX5_bow_48 (by decide) ?_
          have hf := sat_some hf
          exact g_iret B rfl rfl dX5_bow_53 hf
    · have hf := sat_f hf c3
      refine g_iconst (v := (-1)) B dX5_bow_19 (by decide) ?_
      have hf := sat_some hf
      exact g_iret B rfl rfl dX5_bow_20 hf
theorem c_X5_bow (l : Launch) (D : va_G) (Ad : Nat → Nat) (cI cP cII : ClassId) {σ : Mm} {p1 : Int32} {p2 : Int32} {τ : Mm} {r : Int32} (h : f_X5_bow σ p1 p2 = some (τ, r)) : CtI l D (tysC cI cP cII) (wdC Ad cI cP cII) StC yX5_bow cX5_bow 5 .int 5 σ [.ref (Ad 0), .int p1, .int p2] (τ, r) := by
  refine metI (Ad := Ad) (cI := cI) (cP := cP) (cII := cII) (by decide) (Nat.le_of_ble_eq_true rfl) (wdG_ok _ _ _) stOK_C rfl (fun K C G hR => ?_)
  have e : kAd K = Ad := G.2.2.2.2.2.1
  have C2 := cC_of C G
  have h9 := w_X5_bow C2 σ p1 p2 ⟨_, h, by rw [hR]; exact ⟨rfl, rfl⟩⟩
  rw [e] at h9
  exact h9
theorem ck_X5_bow {K : Kx} {cc : ByteArray} {own : String} {nL d : Nat} {rty : Option FieldType} (C : CxC K cc own nL d rty) {σ : Mm} {p1 : Int32} {p2 : Int32} {τ : Mm} {r : Int32} (h : f_X5_bow σ p1 p2 = some (τ, r)) : CtI (kl K) (kD K) (ktys K) (kwf K) (kSt K) yX5_bow cX5_bow 5 .int 5 σ [.ref (kAd K 0), .int p1, .int p2] (τ, r) := cC_eq C (P := fun l D tys wf St => CtI l D tys wf St yX5_bow cX5_bow 5 .int 5 σ [.ref (kAd K 0), .int p1, .int p2] (τ, r)) (c_X5_bow _ _ _ _ _ _ h)
def f_X5_stroke (σ : Mm) (p1 : Int32) (p2 : Int32) (p3 : Int32) : Option (Mm × Int32) :=
  bn1 (f_X5_partWith σ p1 p2) (fun σ1 r1 => onul r1 (some (σ1, (-1))) (fun k1 => bn1 (f_X5_isOutside σ1 p3 0 1) (fun σ2 r2 => (if r2 = 0 then chk (kdC k1 == 2) (bn1 (f_X3_bowingFrom σ2 k1 p3) (fun σ4 r4 => onul r4 (none) (fun k4 => chk (kdC k4 == 0) (bn0 (f_X0_work σ4 k4 k1 p3) (fun σ6 => bn1 (f_X0_isThere σ6 k4) (fun σ8 r8 => (if r8 = 0 then some (σ8, (-3)) else chk (inC (k4 + 1) p2) (some (σ8, (σ8 (k4 + 1) p2.toNatClampNeg)))))))))) else some (σ2, (-1))))))
set_option maxHeartbeats 4000000 in
set_option maxRecDepth 100000 in
theorem w_X5_stroke {K : Kx} (C : CxC K cX5_stroke RX5 6 5 (some .int)) (σ : Mm) (p1 : Int32) (p2 : Int32) (p3 : Int32) (hf : Sat (f_X5_stroke σ p1 p2 p3) (fun o => kRt K (some (.int o.2)) o.1)) : Gj K σ 0 [(0, .ref (kAd K 0)), (1, .int p1), (2, .int p2), (3, .int p3)] [] := by
  unfold f_X5_stroke at hf
  have B := C.1
  refine g_aload_n B dX5_stroke_0 rfl 0 rfl ?_
  refine g_iload_n B dX5_stroke_1 rfl 1 rfl ?_
  refine g_iload_n B dX5_stroke_2 rfl 2 rfl ?_
  obtain ⟨σ1, r1, h1, hf⟩ := sat_ca1 hf
  refine g_cVA (rest := []) B (ck_X5_partWith C h1) mo_X5_partWith wm_RX5_51 (by decide) (cC_o3 C) rfl rfl rfl (Nat.le_of_ble_eq_true rfl) dX5_stroke_3 ?_
  cases r1 with
  | none =>
    have hf := sat_on0 hf
    show Gj K σ1 6 [(0, .ref (kAd K 0)), (1, .int p1), (2, .int p2), (3, .int p3)] [.null]
    refine g_astoreN B [(0, .ref (kAd K 0)), (1, .int p1), (2, .int p2), (3, .int p3), (4, .null)] dX5_stroke_6 (by decide) [1, 2, 3, 4, 0] rfl ?_
    refine g_aloadN B dX5_stroke_8 4 rfl ?_
    refine g_ifnullN (tgt := 22) B dX5_stroke_10 (by decide) ?_
    refine g_iconst (v := (-1)) B dX5_stroke_22 (by decide) ?_
    have hf := sat_some hf
    exact g_iret B rfl rfl dX5_stroke_23 hf
  | some k1 =>
    have hf := sat_on1 hf
    show Gj K σ1 6 [(0, .ref (kAd K 0)), (1, .int p1), (2, .int p2), (3, .int p3)] [.ref (kAd K k1)]
    refine g_astore B [(0, .ref (kAd K 0)), (1, .int p1), (2, .int p2), (3, .int p3), (4, .ref (kAd K k1))] dX5_stroke_6 (by decide) [1, 2, 3, 4, 0] rfl ?_
    refine g_aload B dX5_stroke_8 4 rfl ?_
    refine g_ifnull B dX5_stroke_10 ?_
    refine g_iload_n B dX5_stroke_13 rfl 3 rfl ?_
    refine g_iconst (v := 0) B dX5_stroke_14 (by decide) ?_
    refine g_iconst (v := 1) B dX5_stroke_15 (by decide) ?_
    obtain ⟨σ2, r2, h2, hf⟩ := sat_ca1 hf
    refine g_cSI (rest := []) B (ck_X5_isOutside C h2) mo_X5_isOutside wm_RX5_27 (by decide) rfl rfl (Nat.le_of_ble_eq_true rfl) dX5_stroke_16 ?_
    refine g_if_eq (tgt := 24) B dX5_stroke_19 (by decide) (fun c3 => ?_) (fun c3 => ?_)
    · have hf := sat_t hf c3
      refine g_aload B dX5_stroke_24 4 rfl ?_
      refine g_iload_n B dX5_stroke_26 rfl 3 rfl ?_
      obtain ⟨h5, hf⟩ := sat_chk hf
      obtain ⟨σ4, r4, h4, hf⟩ := sat_ca1 hf
      refine g_cVA (rest := []) B (ck_X3_bowingFrom C h4) mo_X3_bowingFrom wm_RX5_121 (by decide) (cC_o2 C (eq_of_beq h5)) rfl rfl rfl (Nat.le_of_ble_eq_true rfl) dX5_stroke_27 ?_
      cases r4 with
      | none =>
        exact (sat_none (sat_on0 hf)).elim
      | some k4 =>
        have hf := sat_on1 hf
        show Gj K σ4 30 [(0, .ref (kAd K 0)), (1, .int p1), (2, .int p2), (3, .int p3), (4, .ref (kAd K k1))] [.ref (kAd K k4)]
        refine g_astore B [(0, .ref (kAd K 0)), (1, .int p1), (2, .int p2), (3, .int p3), (4, .ref (kAd K k1)), (5, .ref (kAd K k4))] dX5_stroke_30 (by decide) [1, 2, 3, 4, 5, 0] rfl ?_
        refine g_aload B dX5_stroke_32 5 rfl ?_
        refine g_aload B dX5_stroke_34 4 rfl ?_
        refine g_iload_n B dX5_stroke_36 rfl 3 rfl ?_
        obtain ⟨h7, hf⟩ := sat_chk hf
        obtain ⟨σ6, h6, hf⟩ := sat_ca0 hf
        refine g_cVV (rest := []) B (ck_X0_work C h6) mo_X0_work wm_RX5_125 (by decide) (cC_o0 C (eq_of_beq h7)) rfl rfl rfl (Nat.le_of_ble_eq_true rfl) dX5_stroke_37 ?_
        refine g_aload B dX5_stroke_40 5 rfl ?_
        obtain ⟨σ8, r8, h8, hf⟩ := sat_ca1 hf
        refine g_cVI (rest := []) B (ck_X0_isThere C h8) mo_X0_isThere wm_RX5_131 (by decide) (cC_o0 C (eq_of_beq h7)) rfl rfl rfl (Nat.le_of_ble_eq_true rfl) dX5_stroke_42 ?_
        refine g_if_eq (tgt := 58) B dX5_stroke_45 (by decide) (fun c9 => ?_) (fun c9 => ?_)
        · have hf := sat_t hf c9
          refine g_bipush (v := (-3)) B dX5_stroke_58 (by decide) ?_
          have hf := sat_some hf
          exact g_iret B rfl rfl dX5_stroke_60 hf
        · have hf := sat_f hf c9
          refine g_aload B dX5_stroke_48 5 rfl ?_
          refine c_get_B_directions C (eq_of_beq h7) wf_RX5_138 dX5_stroke_50 ?_
          refine g_iload_n B dX5_stroke_53 rfl 2 rfl ?_
          obtain ⟨h10, hf⟩ := sat_chk hf
          refine c_iald C h10 dX5_stroke_54 ?_
          refine g_goto (tgt := 60) B dX5_stroke_55 (by decide) ?_
          have hf := sat_some hf
          exact g_iret B rfl rfl dX5_stroke_60 hf
    · have hf := sat_f hf c3
      refine g_iconst (v := (-1)) B dX5_stroke_22 (by decide) ?_
      have hf := sat_some hf
      exact g_iret B rfl rfl dX5_stroke_23 hf
theorem c_X5_stroke (l : Launch) (D : va_G) (Ad : Nat → Nat) (cI cP cII : ClassId) {σ : Mm} {p1 : Int32} {p2 : Int32} {p3 : Int32} {τ : Mm} {r : Int32} (h : f_X5_stroke σ p1 p2 p3 = some (τ, r)) : CtI l D (tysC cI cP cII) (wdC Ad cI cP cII) StC yX5_stroke cX5_stroke 6 .int 5 σ [.ref (Ad 0), .int p1, .int p2, .int p3] (τ, r) := by
  refine metI (Ad := Ad) (cI := cI) (cP := cP) (cII := cII) (by decide) (Nat.le_of_ble_eq_true rfl) (wdG_ok _ _ _) stOK_C rfl (fun K C G hR => ?_)
  have e : kAd K = Ad := G.2.2.2.2.2.1
  have C2 := cC_of C G
  have h9 := w_X5_stroke C2 σ p1 p2 p3 ⟨_, h, by rw [hR]; exact ⟨rfl, rfl⟩⟩
  rw [e] at h9
  exact h9
theorem ck_X5_stroke {K : Kx} {cc : ByteArray} {own : String} {nL d : Nat} {rty : Option FieldType} (C : CxC K cc own nL d rty) {σ : Mm} {p1 : Int32} {p2 : Int32} {p3 : Int32} {τ : Mm} {r : Int32} (h : f_X5_stroke σ p1 p2 p3 = some (τ, r)) : CtI (kl K) (kD K) (ktys K) (kwf K) (kSt K) yX5_stroke cX5_stroke 6 .int 5 σ [.ref (kAd K 0), .int p1, .int p2, .int p3] (τ, r) := cC_eq C (P := fun l D tys wf St => CtI l D tys wf St yX5_stroke cX5_stroke 6 .int 5 σ [.ref (kAd K 0), .int p1, .int p2, .int p3] (τ, r)) (c_X5_stroke _ _ _ _ _ _ h)
def f_X0_countHooks_s4 (k1a : Nat) (k0 : Nat) (σ1 : Mm) (v1_2 : Int32) (v1_3 : Int32) : Option ((Mm × Int32 × Int32) ⊕ (Mm × Int32)) :=
  chk (kdC k1a == 2) ((if (σ1 k1a 0) ≤ v1_3 then some (.inr (σ1, v1_2)) else bn1 (f_X3_isMarked σ1 k1a v1_3 2) (fun σ5 r5 => (if r5 = 0 then chk (kdC k0 == 0) (chk (inC (k0 + 1) v1_3) (chk (inC (k0 + 1) (v1_3 - 1)) ((if (σ5 (k0 + 1) v1_3.toNatClampNeg) = (σ5 (k0 + 1) (v1_3 - 1).toNatClampNeg) then some (.inl (σ5, (v1_2 + 1), (v1_3 + 1))) else some (.inl (σ5, v1_2, (v1_3 + 1))))))) else some (.inl (σ5, v1_2, (v1_3 + 1)))))))
def f_X0_countHooks (σ : Mm) (k0 : Nat) (k1a : Nat) : Option (Mm × Int32) :=
  bn1 (lq2 (f_X0_countHooks_s4 k1a k0) fu σ 0 1) (fun σ2 v2_2 => some (σ2, v2_2))
set_option maxHeartbeats 4000000 in
set_option maxRecDepth 100000 in
theorem w_X0_countHooks {K : Kx} (C : CxC K cX0_countHooks RX0 4 1 (some .int)) (σ : Mm) (k0 : Nat) (k1a : Nat) (hf : Sat (f_X0_countHooks σ k0 k1a) (fun o => kRt K (some (.int o.2)) o.1)) : Gj K σ 0 [(0, .ref (kAd K k0)), (1, .ref (kAd K k1a))] [] := by
  unfold f_X0_countHooks at hf
  have B := C.1
  refine g_iconst (v := 0) B dX0_countHooks_0 (by decide) ?_
  refine g_istore_n B [(0, .ref (kAd K k0)), (1, .ref (kAd K k1a)), (2, .int 0)] dX0_countHooks_1 rfl (by decide) [1, 2, 0] rfl ?_
  refine g_iconst (v := 1) B dX0_countHooks_2 (by decide) ?_
  refine g_istore_n B [(0, .ref (kAd K k0)), (1, .ref (kAd K k1a)), (2, .int 0), (3, .int 1)] dX0_countHooks_3 rfl (by decide) [1, 2, 3, 0] rfl ?_
  have hf := sat_cu1 (G := fun σ2 v2_2 => Gj K σ2 47 [(2, .int v2_2)] []) hf (by
    intro σ2 v2_2 hf
    refine g_iload_n B dX0_countHooks_47 rfl 0 rfl ?_
    have hf := sat_some hf
    exact g_iret B rfl rfl dX0_countHooks_48 hf)
  refine lqr2 (Gh := fun σ1 v1_2 v1_3 => Gj K σ1 4 [(0, .ref (kAd K k0)), (1, .ref (kAd K k1a)), (2, .int v1_2), (3, .int v1_3)] []) ?_ fu σ 0 1 hf
  intro σ1 v1_2 v1_3 hf
  unfold f_X0_countHooks_s4 at hf
  refine g_iload_n B dX0_countHooks_4 rfl 3 rfl ?_
  refine g_aload_n B dX0_countHooks_5 rfl 1 rfl ?_
  obtain ⟨h3, hf⟩ := sat_chk hf
  refine c_get_P_count C (eq_of_beq h3) wf_RX0_26 dX0_countHooks_6 ?_
  refine g_icmp_ge (tgt := 47) B dX0_countHooks_9 (by decide) (fun c4 => ?_) (fun c4 => ?_)
  · have hf := sat_t hf c4
    have hf := sum_r (sat_some hf)
    exact g_sub hf [2] rfl
  · have hf := sat_f hf c4
    refine g_aload_n B dX0_countHooks_12 rfl 1 rfl ?_
    refine g_iload_n B dX0_countHooks_13 rfl 3 rfl ?_
    refine g_iconst (v := 2) B dX0_countHooks_14 (by decide) ?_
    obtain ⟨σ5, r5, h5, hf⟩ := sat_ca1 hf
    refine g_cVI (rest := []) B (ck_X3_isMarked C h5) mo_X3_isMarked wm_RX0_31 (by decide) (cC_o2 C (eq_of_beq h3)) rfl rfl rfl (Nat.le_of_ble_eq_true rfl) dX0_countHooks_15 ?_
    refine g_if_ne (tgt := 41) B dX0_countHooks_18 (by decide) (fun c6 => ?_) (fun c6 => ?_)
    · have hf := sat_f hf c6
      refine g_iinc B (v1_3 + 1) [(0, .ref (kAd K k0)), (1, .ref (kAd K k1a)), (2, .int v1_2), (3, .int ((v1_3 + 1)))] dX0_countHooks_41 3 rfl rfl (by decide) [1, 2, 3, 0] rfl ?_
      refine g_goto (tgt := 4) B dX0_countHooks_44 (by decide) ?_
      have hf := sum_l (sat_some hf)
      exact g_sub hf [0, 1, 2, 3] rfl
    · have hf := sat_t hf c6
      refine g_aload_n B dX0_countHooks_21 rfl 0 rfl ?_
      obtain ⟨h7, hf⟩ := sat_chk hf
      refine c_get_B_directions C (eq_of_beq h7) wf_RX0_9 dX0_countHooks_22 ?_
      refine g_iload_n B dX0_countHooks_25 rfl 3 rfl ?_
      obtain ⟨h8, hf⟩ := sat_chk hf
      refine c_iald C h8 dX0_countHooks_26 ?_
      refine g_aload_n B dX0_countHooks_27 rfl 0 rfl ?_
      refine c_get_B_directions C (eq_of_beq h7) wf_RX0_9 dX0_countHooks_28 ?_
      refine g_iload_n B dX0_countHooks_31 rfl 3 rfl ?_
      refine g_iconst (v := 1) B dX0_countHooks_32 (by decide) ?_
      refine g_isub B dX0_countHooks_33 ?_
      obtain ⟨h9, hf⟩ := sat_chk hf
      refine c_iald C h9 dX0_countHooks_34 ?_
      refine g_icmp_ne (tgt := 41) B dX0_countHooks_35 (by decide) (fun c10 => ?_) (fun c10 => ?_)
      · have hf := sat_f hf c10
        refine g_iinc B (v1_3 + 1) [(0, .ref (kAd K k0)), (1, .ref (kAd K k1a)), (2, .int v1_2), (3, .int ((v1_3 + 1)))] dX0_countHooks_41 3 rfl rfl (by decide) [1, 2, 3, 0] rfl ?_
        refine g_goto (tgt := 4) B dX0_countHooks_44 (by decide) ?_
        have hf := sum_l (sat_some hf)
        exact g_sub hf [0, 1, 2, 3] rfl
      · have hf := sat_t hf c10
        refine g_iinc B (v1_2 + 1) [(0, .ref (kAd K k0)), (1, .ref (kAd K k1a)), (2, .int ((v1_2 + 1))), (3, .int v1_3)] dX0_countHooks_38 2 rfl rfl (by decide) [1, 2, 0, 3] rfl ?_
        refine g_iinc B (v1_3 + 1) [(0, .ref (kAd K k0)), (1, .ref (kAd K k1a)), (2, .int ((v1_2 + 1))), (3, .int ((v1_3 + 1)))] dX0_countHooks_41 3 rfl rfl (by decide) [1, 2, 3, 0] rfl ?_
        refine g_goto (tgt := 4) B dX0_countHooks_44 (by decide) ?_
        have hf := sum_l (sat_some hf)
        exact g_sub hf [0, 1, 2, 3] rfl
theorem c_X0_countHooks (l : Launch) (D : va_G) (Ad : Nat → Nat) (cI cP cII : ClassId) {σ : Mm} {k0 : Nat} {k1a : Nat} {τ : Mm} {r : Int32} (h : f_X0_countHooks σ k0 k1a = some (τ, r)) : CtI l D (tysC cI cP cII) (wdC Ad cI cP cII) StC yX0_countHooks cX0_countHooks 4 .int 1 σ [.ref (Ad k0), .ref (Ad k1a)] (τ, r) := by
  refine metI (Ad := Ad) (cI := cI) (cP := cP) (cII := cII) (by decide) (Nat.le_of_ble_eq_true rfl) (wdG_ok _ _ _) stOK_C rfl (fun K C G hR => ?_)
  have e : kAd K = Ad := G.2.2.2.2.2.1
  have C2 := cC_of C G
  have h9 := w_X0_countHooks C2 σ k0 k1a ⟨_, h, by rw [hR]; exact ⟨rfl, rfl⟩⟩
  rw [e] at h9
  exact h9
theorem ck_X0_countHooks {K : Kx} {cc : ByteArray} {own : String} {nL d : Nat} {rty : Option FieldType} (C : CxC K cc own nL d rty) {σ : Mm} {k0 : Nat} {k1a : Nat} {τ : Mm} {r : Int32} (h : f_X0_countHooks σ k0 k1a = some (τ, r)) : CtI (kl K) (kD K) (ktys K) (kwf K) (kSt K) yX0_countHooks cX0_countHooks 4 .int 1 σ [.ref (kAd K k0), .ref (kAd K k1a)] (τ, r) := cC_eq C (P := fun l D tys wf St => CtI l D tys wf St yX0_countHooks cX0_countHooks 4 .int 1 σ [.ref (kAd K k0), .ref (kAd K k1a)] (τ, r)) (c_X0_countHooks _ _ _ _ _ _ h)
def f_X0_countParted_s4 (k1a : Nat) (k0 : Nat) (σ1 : Mm) (v1_2 : Int32) (v1_3 : Int32) : Option ((Mm × Int32 × Int32) ⊕ (Mm × Int32)) :=
  chk (kdC k1a == 2) ((if (σ1 k1a 0) ≤ v1_3 then some (.inr (σ1, v1_2)) else bn1 (f_X3_isMarked σ1 k1a v1_3 2) (fun σ5 r5 => (if r5 = 0 then some (.inl (σ5, v1_2, (v1_3 + 1))) else chk (kdC k0 == 0) (chk (inC (k0 + 1) v1_3) (chk (inC (k0 + 1) (v1_3 - 1)) ((if (σ5 (k0 + 1) v1_3.toNatClampNeg) = (σ5 (k0 + 1) (v1_3 - 1).toNatClampNeg) then some (.inl (σ5, v1_2, (v1_3 + 1))) else some (.inl (σ5, (v1_2 + 1), (v1_3 + 1)))))))))))
def f_X0_countParted (σ : Mm) (k0 : Nat) (k1a : Nat) : Option (Mm × Int32) :=
  bn1 (lq2 (f_X0_countParted_s4 k1a k0) fu σ 0 1) (fun σ2 v2_2 => some (σ2, v2_2))
set_option maxHeartbeats 4000000 in
set_option maxRecDepth 100000 in
theorem w_X0_countParted {K : Kx} (C : CxC K cX0_countParted RX0 4 1 (some .int)) (σ : Mm) (k0 : Nat) (k1a : Nat) (hf : Sat (f_X0_countParted σ k0 k1a) (fun o => kRt K (some (.int o.2)) o.1)) : Gj K σ 0 [(0, .ref (kAd K k0)), (1, .ref (kAd K k1a))] [] := by
  unfold f_X0_countParted at hf
  have B := C.1
  refine g_iconst (v := 0) B dX0_countParted_0 (by decide) ?_
  refine g_istore_n B [(0, .ref (kAd K k0)), (1, .ref (kAd K k1a)), (2, .int 0)] dX0_countParted_1 rfl (by decide) [1, 2, 0] rfl ?_
  refine g_iconst (v := 1) B dX0_countParted_2 (by decide) ?_
  refine g_istore_n B [(0, .ref (kAd K k0)), (1, .ref (kAd K k1a)), (2, .int 0), (3, .int 1)] dX0_countParted_3 rfl (by decide) [1, 2, 3, 0] rfl ?_
  have hf := sat_cu1 (G := fun σ2 v2_2 => Gj K σ2 47 [(2, .int v2_2)] []) hf (by
    intro σ2 v2_2 hf
    refine g_iload_n B dX0_countParted_47 rfl 0 rfl ?_
    have hf := sat_some hf
    exact g_iret B rfl rfl dX0_countParted_48 hf)
  refine lqr2 (Gh := fun σ1 v1_2 v1_3 => Gj K σ1 4 [(0, .ref (kAd K k0)), (1, .ref (kAd K k1a)), (2, .int v1_2), (3, .int v1_3)] []) ?_ fu σ 0 1 hf
  intro σ1 v1_2 v1_3 hf
  unfold f_X0_countParted_s4 at hf
  refine g_iload_n B dX0_countParted_4 rfl 3 rfl ?_
  refine g_aload_n B dX0_countParted_5 rfl 1 rfl ?_
  obtain ⟨h3, hf⟩ := sat_chk hf
  refine c_get_P_count C (eq_of_beq h3) wf_RX0_26 dX0_countParted_6 ?_
  refine g_icmp_ge (tgt := 47) B dX0_countParted_9 (by decide) (fun c4 => ?_) (fun c4 => ?_)
  · have hf := sat_t hf c4
    have hf := sum_r (sat_some hf)
    exact g_sub hf [2] rfl
  · have hf := sat_f hf c4
    refine g_aload_n B dX0_countParted_12 rfl 1 rfl ?_
    refine g_iload_n B dX0_countParted_13 rfl 3 rfl ?_
    refine g_iconst (v := 2) B dX0_countParted_14 (by decide) ?_
    obtain ⟨σ5, r5, h5, hf⟩ := sat_ca1 hf
    refine g_cVI (rest := []) B (ck_X3_isMarked C h5) mo_X3_isMarked wm_RX0_31 (by decide) (cC_o2 C (eq_of_beq h3)) rfl rfl rfl (Nat.le_of_ble_eq_true rfl) dX0_countParted_15 ?_
    refine g_if_eq (tgt := 41) B dX0_countParted_18 (by decide) (fun c6 => ?_) (fun c6 => ?_)
    · have hf := sat_t hf c6
      refine g_iinc B (v1_3 + 1) [(0, .ref (kAd K k0)), (1, .ref (kAd K k1a)), (2, .int v1_2), (3, .int ((v1_3 + 1)))] dX0_countParted_41 3 rfl rfl (by decide) [1, 2, 3, 0] rfl ?_
      refine g_goto (tgt := 4) B dX0_countParted_44 (by decide) ?_
      have hf := sum_l (sat_some hf)
      exact g_sub hf [0, 1, 2, 3] rfl
    · have hf := sat_f hf c6
      refine g_aload_n B dX0_countParted_21 rfl 0 rfl ?_
      obtain ⟨h7, hf⟩ := sat_chk hf
      refine c_get_B_directions C (eq_of_beq h7) wf_RX0_9 dX0_countParted_22 ?_
      refine g_iload_n B dX0_countParted_25 rfl 3 rfl ?_
      obtain ⟨h8, hf⟩ := sat_chk hf
      refine c_iald C h8 dX0_countParted_26 ?_
      refine g_aload_n B dX0_countParted_27 rfl 0 rfl ?_
      refine c_get_B_directions C (eq_of_beq h7) wf_RX0_9 dX0_countParted_28 ?_
      refine g_iload_n B dX0_countParted_31 rfl 3 rfl ?_
      refine g_iconst (v := 1) B dX0_countParted_32 (by decide) ?_
      refine g_isub B dX0_countParted_33 ?_
      obtain ⟨h9, hf⟩ := sat_chk hf
      refine c_iald C h9 dX0_countParted_34 ?_
      refine g_icmp_eq (tgt := 41) B dX0_countParted_35 (by decide) (fun c10 => ?_) (fun c10 => ?_)
      · have hf := sat_t hf c10
        refine g_iinc B (v1_3 + 1) [(0, .ref (kAd K k0)), (1, .ref (kAd K k1a)), (2, .int v1_2), (3, .int ((v1_3 + 1)))] dX0_countParted_41 3 rfl rfl (by decide) [1, 2, 3, 0] rfl ?_
        refine g_goto (tgt := 4) B dX0_countParted_44 (by decide) ?_
        have hf := sum_l (sat_some hf)
        exact g_sub hf [0, 1, 2, 3] rfl
      · have hf := sat_f hf c10
        refine g_iinc B (v1_2 + 1) [(0, .ref (kAd K k0)), (1, .ref (kAd K k1a)), (2, .int ((v1_2 + 1))), (3, .int v1_3)] dX0_countParted_38 2 rfl rfl (by decide) [1, 2, 0, 3] rfl ?_
        refine g_iinc B (v1_3 + 1) [(0, .ref (kAd K k0)), (1, .ref (kAd K k1a)), (2, .int ((v1_2 + 1))), (3, .int ((v1_3 + 1)))] dX0_countParted_41 3 rfl rfl (by decide) [1, 2, 3, 0] rfl ?_
        refine g_goto (tgt := 4) B dX0_countParted_44 (by decide) ?_
        have hf := sum_l (sat_some hf)
        exact g_sub hf [0, 1, 2, 3] rfl
theorem c_X0_countParted (l : Launch) (D : va_G) (Ad : Nat → Nat) (cI cP cII : ClassId) {σ : Mm} {k0 : Nat} {k1a : Nat} {τ : Mm} {r : Int32} (h : f_X0_countParted σ k0 k1a = some (τ, r)) : CtI l D (tysC cI cP cII) (wdC Ad cI cP cII) StC yX0_countParted cX0_countParted 4 .int 1 σ [.ref (Ad k0), .ref (Ad k1a)] (τ, r) := by
  refine metI (Ad := Ad) (cI := cI) (cP := cP) (cII := cII) (by decide) (Nat.le_of_ble_eq_true rfl) (wdG_ok _ _ _) stOK_C rfl (fun K C G hR => ?_)
  have e : kAd K = Ad := G.2.2.2.2.2.1
  have C2 := cC_of C G
  have h9 := w_X0_countParted C2 σ k0 k1a ⟨_, h, by rw [hR]; exact ⟨rfl, rfl⟩⟩
  rw [e] at h9
  exact h9
theorem ck_X0_countParted {K : Kx} {cc : ByteArray} {own : String} {nL d : Nat} {rty : Option FieldType} (C : CxC K cc own nL d rty) {σ : Mm} {k0 : Nat} {k1a : Nat} {τ : Mm} {r : Int32} (h : f_X0_countParted σ k0 k1a = some (τ, r)) : CtI (kl K) (kD K) (ktys K) (kwf K) (kSt K) yX0_countParted cX0_countParted 4 .int 1 σ [.ref (kAd K k0), .ref (kAd K k1a)] (τ, r) := cC_eq C (P := fun l D tys wf St => CtI l D tys wf St yX0_countParted cX0_countParted 4 .int 1 σ [.ref (kAd K k0), .ref (kAd K k1a)] (τ, r)) (c_X0_countParted _ _ _ _ _ _ h)
def f_X3_countSlurred_s4 (k0 : Nat) (σ1 : Mm) (v1_1 : Int32) (v1_2 : Int32) : Option ((Mm × Int32 × Int32) ⊕ (Mm × Int32)) :=
  chk (kdC k0 == 2) ((if (σ1 k0 0) ≤ v1_2 then some (.inr (σ1, v1_1)) else bn1 (f_X3_isMarked σ1 k0 v1_2 2) (fun σ5 r5 => (if r5 = 0 then some (.inl (σ5, v1_1, (v1_2 + 1))) else some (.inl (σ5, (v1_1 + 1), (v1_2 + 1)))))))
def f_X3_countSlurred (σ : Mm) (k0 : Nat) : Option (Mm × Int32) :=
  bn1 (lq2 (f_X3_countSlurred_s4 k0) fu σ 0 0) (fun σ2 v2_1 => some (σ2, v2_1))
set_option maxHeartbeats 4000000 in
set_option maxRecDepth 100000 in
theorem w_X3_countSlurred {K : Kx} (C : CxC K cX3_countSlurred RX3 3 1 (some .int)) (σ : Mm) (k0 : Nat) (hf : Sat (f_X3_countSlurred σ k0) (fun o => kRt K (some (.int o.2)) o.1)) : Gj K σ 0 [(0, .ref (kAd K k0))] [] := by
  unfold f_X3_countSlurred at hf
  have B := C.1
  refine g_iconst (v := 0) B dX3_countSlurred_0 (by decide) ?_
  refine g_istore_n B [(0, .ref (kAd K k0)), (1, .int 0)] dX3_countSlurred_1 rfl (by decide) [1, 0] rfl ?_
  refine g_iconst (v := 0) B dX3_countSlurred_2 (by decide) ?_
  refine g_istore_n B [(0, .ref (kAd K k0)), (1, .int 0), (2, .int 0)] dX3_countSlurred_3 rfl (by decide) [1, 2, 0] rfl ?_
  have hf := sat_cu1 (G := fun σ2 v2_1 => Gj K σ2 30 [(1, .int v2_1)] []) hf (by
    intro σ2 v2_1 hf
    refine g_iload_n B dX3_countSlurred_30 rfl 0 rfl ?_
    have hf := sat_some hf
    exact g_iret B rfl rfl dX3_countSlurred_31 hf)
  refine lqr2 (Gh := fun σ1 v1_1 v1_2 => Gj K σ1 4 [(0, .ref (kAd K k0)), (1, .int v1_1), (2, .int v1_2)] []) ?_ fu σ 0 0 hf
  intro σ1 v1_1 v1_2 hf
  unfold f_X3_countSlurred_s4 at hf
  refine g_iload_n B dX3_countSlurred_4 rfl 2 rfl ?_
  refine g_aload_n B dX3_countSlurred_5 rfl 0 rfl ?_
  obtain ⟨h3, hf⟩ := sat_chk hf
  refine c_get_P_count C (eq_of_beq h3) wf_RX3_40 dX3_countSlurred_6 ?_
  refine g_icmp_ge (tgt := 30) B dX3_countSlurred_9 (by decide) (fun c4 => ?_) (fun c4 => ?_)
  · have hf := sat_t hf c4
    have hf := sum_r (sat_some hf)
    exact g_sub hf [1] rfl
  · have hf := sat_f hf c4
    refine g_aload_n B dX3_countSlurred_12 rfl 0 rfl ?_
    refine g_iload_n B dX3_countSlurred_13 rfl 2 rfl ?_
    refine g_iconst (v := 2) B dX3_countSlurred_14 (by decide) ?_
    obtain ⟨σ5, r5, h5, hf⟩ := sat_ca1 hf
    refine g_cVI (rest := []) B (ck_X3_isMarked C h5) mo_X3_isMarked wm_RX3_48 (by decide) (cC_o2 C (eq_of_beq h3)) rfl rfl rfl (Nat.le_of_ble_eq_true rfl) dX3_countSlurred_15 ?_
    refine g_if_eq (tgt := 24) B dX3_countSlurred_18 (by decide) (fun c6 => ?_) (fun c6 => ?_)
    · have hf := sat_t hf c6
      refine g_iinc B (v1_2 + 1) [(0, .ref (kAd K k0)), (1, .int v1_1), (2, .int ((v1_2 + 1)))] dX3_countSlurred_24 2 rfl rfl (by decide) [1, 2, 0] rfl ?_
      refine g_goto (tgt := 4) B dX3_countSlurred_27 (by decide) ?_
      have hf := sum_l (sat_some hf)
      exact g_sub hf [0, 1, 2] rfl
    · have hf := sat_f hf c6
      refine g_iinc B (v1_1 + 1) [(0, .ref (kAd K k0)), (1, .int ((v1_1 + 1))), (2, .int v1_2)] dX3_countSlurred_21 1 rfl rfl (by decide) [1, 0, 2] rfl ?_
      refine g_iinc B (v1_2 + 1) [(0, .ref (kAd K k0)), (1, .int ((v1_1 + 1))), (2, .int ((v1_2 + 1)))] dX3_countSlurred_24 2 rfl rfl (by decide) [1, 2, 0] rfl ?_
      refine g_goto (tgt := 4) B dX3_countSlurred_27 (by decide) ?_
      have hf := sum_l (sat_some hf)
      exact g_sub hf [0, 1, 2] rfl
theorem c_X3_countSlurred (l : Launch) (D : va_G) (Ad : Nat → Nat) (cI cP cII : ClassId) {σ : Mm} {k0 : Nat} {τ : Mm} {r : Int32} (h : f_X3_countSlurred σ k0 = some (τ, r)) : CtI l D (tysC cI cP cII) (wdC Ad cI cP cII) StC yX3_countSlurred cX3_countSlurred 3 .int 1 σ [.ref (Ad k0)] (τ, r) := by
  refine metI (Ad := Ad) (cI := cI) (cP := cP) (cII := cII) (by decide) (Nat.le_of_ble_eq_true rfl) (wdG_ok _ _ _) stOK_C rfl (fun K C G hR => ?_)
  have e : kAd K = Ad := G.2.2.2.2.2.1
  have C2 := cC_of C G
  have h9 := w_X3_countSlurred C2 σ k0 ⟨_, h, by rw [hR]; exact ⟨rfl, rfl⟩⟩
  rw [e] at h9
  exact h9
theorem ck_X3_countSlurred {K : Kx} {cc : ByteArray} {own : String} {nL d : Nat} {rty : Option FieldType} (C : CxC K cc own nL d rty) {σ : Mm} {k0 : Nat} {τ : Mm} {r : Int32} (h : f_X3_countSlurred σ k0 = some (τ, r)) : CtI (kl K) (kD K) (ktys K) (kwf K) (kSt K) yX3_countSlurred cX3_countSlurred 3 .int 1 σ [.ref (kAd K k0)] (τ, r) := cC_eq C (P := fun l D tys wf St => CtI l D tys wf St yX3_countSlurred cX3_countSlurred 3 .int 1 σ [.ref (kAd K k0)] (τ, r)) (c_X3_countSlurred _ _ _ _ _ _ h)
