def f_X5_stop_t42 (k1 : Nat) (p2 : Int32) (p3 : Int32) (σ3 : Mm) : Option (Mm × Int32) :=
  chk (kdC k1 == 2) (chk (inC (k1 + 2) p2) (chk (inC (k1 + 2) p2) (nm (ms σ3 (k1 + 2) p2.toNatClampNeg p3) (fun σ6 => nm (ms σ6 k1 2 0) (fun σ7 => some (σ7, (σ3 (k1 + 2) p2.toNatClampNeg)))))))
def f_X5_stop (σ : Mm) (p1 : Int32) (p2 : Int32) (p3 : Int32) : Option (Mm × Int32) :=
  bn1 (f_X5_partWith σ p1 p2) (fun σ1 r1 => onul r1 (some (σ1, (-9))) (fun k1 => (if p3 = (-1) then (f_X5_stop_t42 k1 p2 p3 σ1) else chk (kdC k1 == 2) (chk (inC (k1 + 1) p2) (bn1 (f_X5_isOutside σ1 p3 ((σ1 (k1 + 1) p2.toNatClampNeg) + 1) 80) (fun σ10 r10 => (if r10 = 0 then (f_X5_stop_t42 k1 p2 p3 σ10) else some (σ10, (-9)))))))))
set_option maxHeartbeats 4000000 in
set_option maxRecDepth 100000 in
theorem w_X5_stop {K : Kx} (C : CxC K cX5_stop RX5 6 3 (some .int)) (σ : Mm) (p1 : Int32) (p2 : Int32) (p3 : Int32) (hf : Sat (f_X5_stop σ p1 p2 p3) (fun o => kRt K (some (.int o.2)) o.1)) : Gj K σ 0 [(0, .ref (kAd K 0)), (1, .int p1), (2, .int p2), (3, .int p3)] [] := by
  unfold f_X5_stop at hf
  have B := C.1
  refine g_aload_n B dX5_stop_0 rfl 0 rfl ?_
  refine g_iload_n B dX5_stop_1 rfl 1 rfl ?_
  refine g_iload_n B dX5_stop_2 rfl 2 rfl ?_
  obtain ⟨σ1, r1, h1, hf⟩ := sat_ca1 hf
  refine g_cVA (rest := []) B (ck_X5_partWith C h1) mo_X5_partWith wm_RX5_51 (by decide) (cC_o3 C) rfl rfl rfl (Nat.le_of_ble_eq_true rfl) dX5_stop_3 ?_
  cases r1 with
  | none =>
    have hf := sat_on0 hf
    show Gj K σ1 6 [(0, .ref (kAd K 0)), (1, .int p1), (2, .int p2), (3, .int p3)] [.null]
    refine g_astoreN B [(0, .ref (kAd K 0)), (1, .int p1), (2, .int p2), (3, .int p3), (4, .null)] dX5_stop_6 (by decide) [1, 2, 3, 4, 0] rfl ?_
    refine g_aloadN B dX5_stop_8 4 rfl ?_
    refine g_ifnonnullN B dX5_stop_10 ?_
    refine g_bipush (v := (-9)) B dX5_stop_13 (by decide) ?_
    have hf := sat_some hf
    exact g_iret B rfl rfl dX5_stop_15 hf
  | some k1 =>
    have hf := sat_on1 hf
    show Gj K σ1 6 [(0, .ref (kAd K 0)), (1, .int p1), (2, .int p2), (3, .int p3)] [.ref (kAd K k1)]
    refine g_astore B [(0, .ref (kAd K 0)), (1, .int p1), (2, .int p2), (3, .int p3), (4, .ref (kAd K k1))] dX5_stop_6 (by decide) [1, 2, 3, 4, 0] rfl ?_
    refine g_aload B dX5_stop_8 4 rfl ?_
    refine g_ifnonnull (tgt := 16) B dX5_stop_10 (by decide) ?_
    refine g_iload_n B dX5_stop_16 rfl 3 rfl ?_
    refine g_iconst (v := (-1)) B dX5_stop_17 (by decide) ?_
    refine sat_P hf (fun P3 eP3 hf => ?_)
    have hk3 : ∀ (σ3 : Mm), Sat (f_X5_stop_t42 k1 p2 p3 σ3) P3 → Gj K σ3 42 [(2, .int p2), (3, .int p3), (4, .ref (kAd K k1))] [] := by
      intro σ3 hf
      rw [eP3] at hf
      unfold f_X5_stop_t42 at hf
      refine g_aload B dX5_stop_42 2 rfl ?_
      obtain ⟨h4, hf⟩ := sat_chk hf
      refine c_get_P_seconds C (eq_of_beq h4) wf_RX5_58 dX5_stop_44 ?_
      refine g_iload_n B dX5_stop_47 rfl 0 rfl ?_
      obtain ⟨h5, hf⟩ := sat_chk hf
      refine c_iald C h5 dX5_stop_48 ?_
      refine g_istore B [(2, .int p2), (3, .int p3), (4, .ref (kAd K k1)), (5, .int ((σ3 (k1 + 2) p2.toNatClampNeg)))] dX5_stop_49 (by decide) [1, 2, 3, 0] rfl ?_
      refine g_aload B dX5_stop_51 2 rfl ?_
      refine c_get_P_seconds C (eq_of_beq h4) wf_RX5_58 dX5_stop_53 ?_
      refine g_iload_n B dX5_stop_56 rfl 0 rfl ?_
      refine g_iload_n B dX5_stop_57 rfl 1 rfl ?_
      obtain ⟨h6, hf⟩ := sat_chk hf
      obtain ⟨σ6, e6, hf⟩ := sat_nm hf
      refine c_iast C h6 dX5_stop_58 (g_mem2 e6 ?_)
      refine g_aload B dX5_stop_59 2 rfl ?_
      refine g_iconst (v := 0) B dX5_stop_61 (by decide) ?_
      obtain ⟨σ7, e7, hf⟩ := sat_nm hf
      refine c_put_P_isFingered C (eq_of_beq h4) rfl rfl wf_RX5_31 dX5_stop_62 (g_mem2 e7 ?_)
      refine g_iload B dX5_stop_65 3 rfl ?_
      have hf := sat_some hf
      exact g_iret B rfl rfl dX5_stop_67 hf
    subst eP3
    refine g_icmp_eq (tgt := 42) B dX5_stop_18 (by decide) (fun c2 => ?_) (fun c2 => ?_)
    · have hf := sat_t hf c2
      have hf := hk3 σ1 hf
      exact g_sub hf [2, 3, 4] rfl
    · have hf := sat_f hf c2
      refine g_iload_n B dX5_stop_21 rfl 3 rfl ?_
      refine g_aload B dX5_stop_22 4 rfl ?_
      obtain ⟨h8, hf⟩ := sat_chk hf
      refine c_get_P_pitches C (eq_of_beq h8) wf_RX5_55 dX5_stop_24 ?_
      refine g_iload_n B dX5_stop_27 rfl 2 rfl ?_
      obtain ⟨h9, hf⟩ := sat_chk hf
      refine c_iald C h9 dX5_stop_28 ?_
      refine g_iconst (v := 1) B dX5_stop_29 (by decide) ?_
      refine g_iadd B dX5_stop_30 ?_
      refine g_bipush (v := 80) B dX5_stop_31 (by decide) ?_
      obtain ⟨σ10, r10, h10, hf⟩ := sat_ca1 hf
      refine g_cSI (rest := []) B (ck_X5_isOutside C h10) mo_X5_isOutside wm_RX5_27 (by decide) rfl rfl (Nat.le_of_ble_eq_true rfl) dX5_stop_33 ?_
      refine g_if_eq (tgt := 42) B dX5_stop_36 (by decide) (fun c11 => ?_) (fun c11 => ?_)
      · have hf := sat_t hf c11
        have hf := hk3 σ10 hf
        exact g_sub hf [2, 3, 4] rfl
      · have hf := sat_f hf c11
        refine g_bipush (v := (-9)) B dX5_stop_39 (by decide) ?_
        have hf := sat_some hf
        exact g_iret B rfl rfl dX5_stop_41 hf
theorem c_X5_stop (l : Launch) (D : va_G) (Ad : Nat → Nat) (cI cP cII : ClassId) {σ : Mm} {p1 : Int32} {p2 : Int32} {p3 : Int32} {τ : Mm} {r : Int32} (h : f_X5_stop σ p1 p2 p3 = some (τ, r)) : CtI l D (tysC cI cP cII) (wdC Ad cI cP cII) StC yX5_stop cX5_stop 6 .int 3 σ [.ref (Ad 0), .int p1, .int p2, .int p3] (τ, r) := by
  refine metI (Ad := Ad) (cI := cI) (cP := cP) (cII := cII) (by decide) (Nat.le_of_ble_eq_true rfl) (wdG_ok _ _ _) stOK_C rfl (fun K C G hR => ?_)
  have e : kAd K = Ad := G.2.2.2.2.2.1
  have C2 := cC_of C G
  have h9 := w_X5_stop C2 σ p1 p2 p3 ⟨_, h, by rw [hR]; exact ⟨rfl, rfl⟩⟩
  rw [e] at h9
  exact h9
theorem ck_X5_stop {K : Kx} {cc : ByteArray} {own : String} {nL d : Nat} {rty : Option FieldType} (C : CxC K cc own nL d rty) {σ : Mm} {p1 : Int32} {p2 : Int32} {p3 : Int32} {τ : Mm} {r : Int32} (h : f_X5_stop σ p1 p2 p3 = some (τ, r)) : CtI (kl K) (kD K) (ktys K) (kwf K) (kSt K) yX5_stop cX5_stop 6 .int 3 σ [.ref (kAd K 0), .int p1, .int p2, .int p3] (τ, r) := cC_eq C (P := fun l D tys wf St => CtI l D tys wf St yX5_stop cX5_stop 6 .int 3 σ [.ref (kAd K 0), .int p1, .int p2, .int p3] (τ, r)) (c_X5_stop _ _ _ _ _ _ h)
def f_X5_mark (σ : Mm) (p1 : Int32) (p2 : Int32) (p3 : Int32) : Option (Mm × Int32) :=
  bn1 (f_X5_partWith σ p1 p2) (fun σ1 r1 => onul r1 (some (σ1, (-1))) (fun k1 => bn1 (f_X5_isOutside σ1 p3 0 15) (fun σ2 r2 => (if r2 = 0 then bn1 (f_X5_marksMayBe σ2 p2 p3) (fun σ4 r4 => (if r4 = 0 then some (σ4, (-4)) else chk (kdC k1 == 2) (chk (inC (k1 + 5) p2) (chk (inC (k1 + 5) p2) (nm (ms σ4 (k1 + 5) p2.toNatClampNeg p3) (fun σ8 => nm (ms σ8 k1 2 0) (fun σ9 => some (σ9, (σ4 (k1 + 5) p2.toNatClampNeg))))))))) else some (σ2, (-1))))))
set_option maxHeartbeats 4000000 in
set_option maxRecDepth 100000 in
theorem w_X5_mark {K : Kx} (C : CxC K cX5_mark RX5 6 3 (some .int)) (σ : Mm) (p1 : Int32) (p2 : Int32) (p3 : Int32) (hf : Sat (f_X5_mark σ p1 p2 p3) (fun o => kRt K (some (.int o.2)) o.1)) : Gj K σ 0 [(0, .ref (kAd K 0)), (1, .int p1), (2, .int p2), (3, .int p3)] [] := by
  unfold f_X5_mark at hf
  have B := C.1
  refine g_aload_n B dX5_mark_0 rfl 0 rfl ?_
  refine g_iload_n B dX5_mark_1 rfl 1 rfl ?_
  refine g_iload_n B dX5_mark_2 rfl 2 rfl ?_
  obtain ⟨σ1, r1, h1, hf⟩ := sat_ca1 hf
  refine g_cVA (rest := []) B (ck_X5_partWith C h1) mo_X5_partWith wm_RX5_51 (by decide) (cC_o3 C) rfl rfl rfl (Nat.le_of_ble_eq_true rfl) dX5_mark_3 ?_
  cases r1 with
  | none =>
    have hf := sat_on0 hf
    show Gj K σ1 6 [(0, .ref (kAd K 0)), (1, .int p1), (2, .int p2), (3, .int p3)] [.null]
    refine g_astoreN B [(0, .ref (kAd K 0)), (1, .int p1), (2, .int p2), (3, .int p3), (4, .null)] dX5_mark_6 (by decide) [1, 2, 3, 4, 0] rfl ?_
    refine g_aloadN B dX5_mark_8 4 rfl ?_
    refine g_ifnullN (tgt := 23) B dX5_mark_10 (by decide) ?_
    refine g_iconst (v := (-1)) B dX5_mark_23 (by decide) ?_
    have hf := sat_some hf
    exact g_iret B rfl rfl dX5_mark_24 hf
  | some k1 =>
    have hf := sat_on1 hf
    show Gj K σ1 6 [(0, .ref (kAd K 0)), (1, .int p1), (2, .int p2), (3, .int p3)] [.ref (kAd K k1)]
    refine g_astore B [(0, .ref (kAd K 0)), (1, .int p1), (2, .int p2), (3, .int p3), (4, .ref (kAd K k1))] dX5_mark_6 (by decide) [1, 2, 3, 4, 0] rfl ?_
    refine g_aload B dX5_mark_8 4 rfl ?_
    refine g_ifnull B dX5_mark_10 ?_
    refine g_iload_n B dX5_mark_13 rfl 3 rfl ?_
    refine g_iconst (v := 0) B dX5_mark_14 (by decide) ?_
    refine g_bipush (v := 15) B dX5_mark_15 (by decide) ?_
    obtain ⟨σ2, r2, h2, hf⟩ := sat_ca1 hf
    refine g_cSI (rest := []) B (ck_X5_isOutside C h2) mo_X5_isOutside wm_RX5_27 (by decide) rfl rfl (Nat.le_of_ble_eq_true rfl) dX5_mark_17 ?_
    refine g_if_eq (tgt := 25) B dX5_mark_20 (by decide) (fun c3 => ?_) (fun c3 => ?_)
    · have hf := sat_t hf c3
      refine g_iload_n B dX5_mark_25 rfl 2 rfl ?_
      refine g_iload_n B dX5_mark_26 rfl 3 rfl ?_
      obtain ⟨σ4, r4, h4, hf⟩ := sat_ca1 hf
      refine g_cSI (rest := []) B (ck_X5_marksMayBe C h4) mo_X5_marksMayBe wm_RX5_43 (by decide) rfl rfl (Nat.le_of_ble_eq_true rfl) dX5_mark_27 ?_
      refine g_if_ne (tgt := 36) B dX5_mark_30 (by decide) (fun c5 => ?_) (fun c5 => ?_)
      · have hf := sat_f hf c5
        refine g_aload B dX5_mark_36 4 rfl ?_
        obtain ⟨h6, hf⟩ := sat_chk hf
        refine c_get_P_marks C (eq_of_beq h6) wf_RX5_61 dX5_mark_38 ?_
        refine g_iload_n B dX5_mark_41 rfl 2 rfl ?_
        obtain ⟨h7, hf⟩ := sat_chk hf
        refine c_iald C h7 dX5_mark_42 ?_
        refine g_istore B [(0, .ref (kAd K 0)), (1, .int p1), (2, .int p2), (3, .int p3), (4, .ref (kAd K k1)), (5, .int ((σ4 (k1 + 5) p2.toNatClampNeg)))] dX5_mark_43 (by decide) [1, 2, 3, 4, 5, 0] rfl ?_
        refine g_aload B dX5_mark_45 4 rfl ?_
        refine c_get_P_marks C (eq_of_beq h6) wf_RX5_61 dX5_mark_47 ?_
        refine g_iload_n B dX5_mark_50 rfl 2 rfl ?_
        refine g_iload_n B dX5_mark_51 rfl 3 rfl ?_
        obtain ⟨h8, hf⟩ := sat_chk hf
        obtain ⟨σ8, e8, hf⟩ := sat_nm hf
        refine c_iast C h8 dX5_mark_52 (g_mem2 e8 ?_)
        refine g_aload B dX5_mark_53 4 rfl ?_
        refine g_iconst (v := 0) B dX5_mark_55 (by decide) ?_
        obtain ⟨σ9, e9, hf⟩ := sat_nm hf
        refine c_put_P_isFingered C (eq_of_beq h6) rfl rfl wf_RX5_31 dX5_mark_56 (g_mem2 e9 ?_)
        refine g_iload B dX5_mark_59 5 rfl ?_
        have hf := sat_some hf
        exact g_iret B rfl rfl dX5_mark_61 hf
      · have hf := sat_t hf c5
        refine g_bipush (v := (-4)) B dX5_mark_33 (by decide) ?_
        have hf := sat_some hf
        exact g_iret B rfl rfl dX5_mark_35 hf
    · have hf := sat_f hf c3
      refine g_iconst (v := (-1)) B dX5_mark_23 (by decide) ?_
      have hf := sat_some hf
      exact g_iret B rfl rfl dX5_mark_24 hf
theorem c_X5_mark (l : Launch) (D : va_G) (Ad : Nat → Nat) (cI cP cII : ClassId) {σ : Mm} {p1 : Int32} {p2 : Int32} {p3 : Int32} {τ : Mm} {r : Int32} (h : f_X5_mark σ p1 p2 p3 = some (τ, r)) : CtI l D (tysC cI cP cII) (wdC Ad cI cP cII) StC yX5_mark cX5_mark 6 .int 3 σ [.ref (Ad 0), .int p1, .int p2, .int p3] (τ, r) := by
  refine metI (Ad := Ad) (cI := cI) (cP := cP) (cII := cII) (by decide) (Nat.le_of_ble_eq_true rfl) (wdG_ok _ _ _) stOK_C rfl (fun K C G hR => ?_)
  have e : kAd K = Ad := G.2.2.2.2.2.1
  have C2 := cC_of C G
  have h9 := w_X5_mark C2 σ p1 p2 p3 ⟨_, h, by rw [hR]; exact ⟨rfl, rfl⟩⟩
  rw [e] at h9
  exact h9
theorem ck_X5_mark {K : Kx} {cc : ByteArray} {own : String} {nL d : Nat} {rty : Option FieldType} (C : CxC K cc own nL d rty) {σ : Mm} {p1 : Int32} {p2 : Int32} {p3 : Int32} {τ : Mm} {r : Int32} (h : f_X5_mark σ p1 p2 p3 = some (τ, r)) : CtI (kl K) (kD K) (ktys K) (kwf K) (kSt K) yX5_mark cX5_mark 6 .int 3 σ [.ref (kAd K 0), .int p1, .int p2, .int p3] (τ, r) := cC_eq C (P := fun l D tys wf St => CtI l D tys wf St yX5_mark cX5_mark 6 .int 3 σ [.ref (kAd K 0), .int p1, .int p2, .int p3] (τ, r)) (c_X5_mark _ _ _ _ _ _ h)
def f_X5_cut (σ : Mm) (p1 : Int32) : Option (Mm × Int32) :=
  bn1 (f_X5_partAt σ p1) (fun σ1 r1 => onul r1 (some (σ1, (-1))) (fun k1 => chk (kdC k1 == 2) ((if 0 < (σ1 k1 0) then nm (ms σ1 k1 0 ((σ1 k1 0) - 1)) (fun σ4 => nm (ms σ4 k1 2 0) (fun σ5 => some (σ5, (σ5 k1 0)))) else some (σ1, (-3))))))
set_option maxHeartbeats 4000000 in
set_option maxRecDepth 100000 in
theorem w_X5_cut {K : Kx} (C : CxC K cX5_cut RX5 3 2 (some .int)) (σ : Mm) (p1 : Int32) (hf : Sat (f_X5_cut σ p1) (fun o => kRt K (some (.int o.2)) o.1)) : Gj K σ 0 [(0, .ref (kAd K 0)), (1, .int p1)] [] := by
  unfold f_X5_cut at hf
  have B := C.1
  refine g_aload_n B dX5_cut_0 rfl 0 rfl ?_
  refine g_iload_n B dX5_cut_1 rfl 1 rfl ?_
  obtain ⟨σ1, r1, h1, hf⟩ := sat_ca1 hf
  refine g_cVA (rest := []) B (ck_X5_partAt C h1) mo_X5_partAt wm_RX5_35 (by decide) (cC_o3 C) rfl rfl rfl (Nat.le_of_ble_eq_true rfl) dX5_cut_2 ?_
  cases r1 with
  | none =>
    have hf := sat_on0 hf
    show Gj K σ1 5 [(0, .ref (kAd K 0)), (1, .int p1)] [.null]
    refine g_astore_nN B [(0, .ref (kAd K 0)), (1, .int p1), (2, .null)] dX5_cut_5 rfl (by decide) [1, 2, 0] rfl ?_
    refine g_aload_nN B dX5_cut_6 rfl 2 rfl ?_
    refine g_ifnonnullN B dX5_cut_7 ?_
    refine g_iconst (v := (-1)) B dX5_cut_10 (by decide) ?_
    have hf := sat_some hf
    exact g_iret B rfl rfl dX5_cut_11 hf
  | some k1 =>
    have hf := sat_on1 hf
    show Gj K σ1 5 [(0, .ref (kAd K 0)), (1, .int p1)] [.ref (kAd K k1)]
    refine g_astore_n B [(0, .ref (kAd K 0)), (1, .int p1), (2, .ref (kAd K k1))] dX5_cut_5 rfl (by decide) [1, 2, 0] rfl ?_
    refine g_aload_n B dX5_cut_6 rfl 2 rfl ?_
    refine g_ifnonnull (tgt := 12) B dX5_cut_7 (by decide) ?_
    refine g_aload_n B dX5_cut_12 rfl 2 rfl ?_
    obtain ⟨h2, hf⟩ := sat_chk hf
    refine c_get_P_count C (eq_of_beq h2) wf_RX5_39 dX5_cut_13 ?_
    refine g_if_gt (tgt := 22) B dX5_cut_16 (by decide) (fun c3 => ?_) (fun c3 => ?_)
    · have hf := sat_t hf c3
      refine g_aload_n B dX5_cut_22 rfl 2 rfl ?_
      refine g_dup B rfl dX5_cut_23 ?_
      refine c_get_P_count C (eq_of_beq h2) wf_RX5_39 dX5_cut_24 ?_
      refine g_iconst (v := 1) B dX5_cut_27 (by decide) ?_
      refine g_isub B dX5_cut_28 ?_
      obtain ⟨σ4, e4, hf⟩ := sat_nm hf
      refine c_put_P_count C (eq_of_beq h2) wf_RX5_39 dX5_cut_29 (g_mem2 e4 ?_)
      refine g_aload_n B dX5_cut_32 rfl 2 rfl ?_
      refine g_iconst (v := 0) B dX5_cut_33 (by decide) ?_
      obtain ⟨σ5, e5, hf⟩ := sat_nm hf
      refine c_put_P_isFingered C (eq_of_beq h2) rfl rfl wf_RX5_31 dX5_cut_34 (g_mem2 e5 ?_)
      refine g_aload_n B dX5_cut_37 rfl 2 rfl ?_
      refine c_get_P_count C (eq_of_beq h2) wf_RX5_39 dX5_cut_38 ?_
      have hf := sat_some hf
      exact g_iret B rfl rfl dX5_cut_41 hf
    · have hf := sat_f hf c3
      refine g_bipush (v := (-3)) B dX5_cut_19 (by decide) ?_
      have hf := sat_some hf
      exact g_iret B rfl rfl dX5_cut_21 hf
theorem c_X5_cut (l : Launch) (D : va_G) (Ad : Nat → Nat) (cI cP cII : ClassId) {σ : Mm} {p1 : Int32} {τ : Mm} {r : Int32} (h : f_X5_cut σ p1 = some (τ, r)) : CtI l D (tysC cI cP cII) (wdC Ad cI cP cII) StC yX5_cut cX5_cut 3 .int 2 σ [.ref (Ad 0), .int p1] (τ, r) := by
  refine metI (Ad := Ad) (cI := cI) (cP := cP) (cII := cII) (by decide) (Nat.le_of_ble_eq_true rfl) (wdG_ok _ _ _) stOK_C rfl (fun K C G hR => ?_)
  have e : kAd K = Ad := G.2.2.2.2.2.1
  have C2 := cC_of C G
  have h9 := w_X5_cut C2 σ p1 ⟨_, h, by rw [hR]; exact ⟨rfl, rfl⟩⟩
  rw [e] at h9
  exact h9
theorem ck_X5_cut {K : Kx} {cc : ByteArray} {own : String} {nL d : Nat} {rty : Option FieldType} (C : CxC K cc own nL d rty) {σ : Mm} {p1 : Int32} {τ : Mm} {r : Int32} (h : f_X5_cut σ p1 = some (τ, r)) : CtI (kl K) (kD K) (ktys K) (kwf K) (kSt K) yX5_cut cX5_cut 3 .int 2 σ [.ref (kAd K 0), .int p1] (τ, r) := cC_eq C (P := fun l D tys wf St => CtI l D tys wf St yX5_cut cX5_cut 3 .int 2 σ [.ref (kAd K 0), .int p1] (τ, r)) (c_X5_cut _ _ _ _ _ _ h)
def f_X1_insert_s23 (p1 : Int32) (p2 : Int32) (σ4 : Mm) (v4_4 : Int32) : Option ((Mm × Int32) ⊕ (Mm × Int32)) :=
  (if v4_4 ≤ 0 then some (.inr (σ4, v4_4)) else chk (inC (7 + p1.toNatClampNeg) (v4_4 - 1)) ((if (σ4 (7 + p1.toNatClampNeg) (v4_4 - 1).toNatClampNeg) ≤ p2 then some (.inr (σ4, v4_4)) else chk (inC (7 + p1.toNatClampNeg) (v4_4 - 1)) (chk (inC (7 + p1.toNatClampNeg) v4_4) (nm (ms σ4 (7 + p1.toNatClampNeg) v4_4.toNatClampNeg (σ4 (7 + p1.toNatClampNeg) (v4_4 - 1).toNatClampNeg)) (fun σ13 => some (.inl (σ13, (v4_4 + (-1))))))))))
def f_X1_insert (σ : Mm) (p1 : Int32) (p2 : Int32) : Option (Mm) :=
  chk (inb p1 12) (chk (inC 5 p1) ((if (σ 5 p1.toNatClampNeg) < 60 then bn1 (lq1 (f_X1_insert_s23 p1 p2) fu σ (σ 5 p1.toNatClampNeg)) (fun σ5 v5_4 => chk (inC (7 + p1.toNatClampNeg) v5_4) (nm (ms σ5 (7 + p1.toNatClampNeg) v5_4.toNatClampNeg p2) (fun σ6 => chk (inC 5 p1) (chk (inC 5 p1) (nm (ms σ6 5 p1.toNatClampNeg ((σ6 5 p1.toNatClampNeg) + 1)) (fun σ8 => some σ8)))))) else some σ)))
set_option maxHeartbeats 4000000 in
set_option maxRecDepth 100000 in
theorem w_X1_insert {K : Kx} (C : CxC K cX1_insert RX1 5 0 none) (σ : Mm) (p1 : Int32) (p2 : Int32) (hf : Sat (f_X1_insert σ p1 p2) (fun o => kRt K none o)) : Gj K σ 0 [(0, .ref (kAd K 3)), (1, .int p1), (2, .int p2)] [] := by
  unfold f_X1_insert at hf
  have B := C.1
  refine g_aload_n B dX1_insert_0 rfl 0 rfl ?_
  refine c_get_D_keys C wf_RX1_13 dX1_insert_1 ?_
  refine g_iload_n B dX1_insert_4 rfl 1 rfl ?_
  obtain ⟨h1, hf⟩ := sat_chk hf
  refine c_aald4 C h1 dX1_insert_5 ?_
  refine g_astore_n B [(0, .ref (kAd K 3)), (1, .int p1), (2, .int p2), (3, .ref (kAd K ((7 + p1.toNatClampNeg))))] dX1_insert_6 rfl (by decide) [1, 2, 3, 0] rfl ?_
  refine g_aload_n B dX1_insert_7 rfl 0 rfl ?_
  refine c_get_D_counts C wf_RX1_16 dX1_insert_8 ?_
  refine g_iload_n B dX1_insert_11 rfl 1 rfl ?_
  obtain ⟨h2, hf⟩ := sat_chk hf
  refine c_iald C h2 dX1_insert_12 ?_
  refine g_istore B [(0, .ref (kAd K 3)), (1, .int p1), (2, .int p2), (3, .ref (kAd K ((7 + p1.toNatClampNeg)))), (4, .int ((σ 5 p1.toNatClampNeg)))] dX1_insert_13 (by decide) [1, 2, 3, 4, 0] rfl ?_
  refine g_iload B dX1_insert_15 4 rfl ?_
  refine g_bipush (v := 60) B dX1_insert_17 (by decide) ?_
  refine g_icmp_lt (tgt := 23) B dX1_insert_19 (by decide) (fun c3 => ?_) (fun c3 => ?_)
  · have hf := sat_t hf c3
    have hf := sat_cu1 (G := fun σ5 v5_4 => Gj K σ5 54 [(0, .ref (kAd K 3)), (1, .int p1), (2, .int p2), (3, .ref (kAd K ((7 + p1.toNatClampNeg)))), (4, .int v5_4)] []) hf (by
      intro σ5 v5_4 hf
      refine g_aload_n B dX1_insert_54 rfl 3 rfl ?_
      refine g_iload B dX1_insert_55 4 rfl ?_
      refine g_iload_n B dX1_insert_57 rfl 2 rfl ?_
      obtain ⟨h6, hf⟩ := sat_chk hf
      obtain ⟨σ6, e6, hf⟩ := sat_nm hf
      refine c_iast C h6 dX1_insert_58 (g_mem2 e6 ?_)
      refine g_aload_n B dX1_insert_59 rfl 0 rfl ?_
      refine c_get_D_counts C wf_RX1_16 dX1_insert_60 ?_
      refine g_iload_n B dX1_insert_63 rfl 1 rfl ?_
      refine g_dup2 B rfl rfl dX1_insert_64 ?_
      obtain ⟨h7, hf⟩ := sat_chk hf
      refine c_iald C h7 dX1_insert_65 ?_
      refine g_iconst (v := 1) B dX1_insert_66 (by decide) ?_
      refine g_iadd B dX1_insert_67 ?_
      obtain ⟨h8, hf⟩ := sat_chk hf
      obtain ⟨σ8, e8, hf⟩ := sat_nm hf
      refine c_iast C h8 dX1_insert_68 (g_mem2 e8 ?_)
      have hf := sat_some hf
      exact g_vret B rfl dX1_insert_69 hf)
    refine lqr1 (Gh := fun σ4 v4_4 => Gj K σ4 23 [(0, .ref (kAd K 3)), (1, .int p1), (2, .int p2), (3, .ref (kAd K ((7 + p1.toNatClampNeg)))), (4, .int v4_4)] []) ?_ fu σ (σ 5 p1.toNatClampNeg) hf
    intro σ4 v4_4 hf
    unfold f_X1_insert_s23 at hf
    refine g_iload B dX1_insert_23 4 rfl ?_
    refine g_if_le (tgt := 54) B dX1_insert_25 (by decide) (fun c9 => ?_) (fun c9 => ?_)
    · have hf := sat_t hf c9
      have hf := sum_r (sat_some hf)
      exact g_sub hf [0, 1, 2, 3, 4] rfl
    · have hf := sat_f hf c9
      refine g_aload_n B dX1_insert_28 rfl 3 rfl ?_
      refine g_iload B dX1_insert_29 4 rfl ?_
      refine g_iconst (v := 1) B dX1_insert_31 (by decide) ?_
      refine g_isub B dX1_insert_32 ?_
      obtain ⟨h10, hf⟩ := sat_chk hf
      refine c_iald C h10 dX1_insert_33 ?_
      refine g_iload_n B dX1_insert_34 rfl 2 rfl ?_
      refine g_icmp_le (tgt := 54) B dX1_insert_35 (by decide) (fun c11 => ?_) (fun c11 => ?_)
      · have hf := sat_t hf c11
        have hf := sum_r (sat_some hf)
        exact g_sub hf [0, 1, 2, 3, 4] rfl
      · have hf := sat_f hf c11
        refine g_aload_n B dX1_insert_38 rfl 3 rfl ?_
        refine g_iload B dX1_insert_39 4 rfl ?_
        refine g_aload_n B dX1_insert_41 rfl 3 rfl ?_
        refine g_iload B dX1_insert_42 4 rfl ?_
        refine g_iconst (v := 1) B dX1_insert_44 (by decide) ?_
        refine g_isub B dX1_insert_45 ?_
        obtain ⟨h12, hf⟩ := sat_chk hf
        refine c_iald C h12 dX1_insert_46 ?_
        obtain ⟨h13, hf⟩ := sat_chk hf
        obtain ⟨σ13, e13, hf⟩ := sat_nm hf
        refine c_iast C h13 dX1_insert_47 (g_mem2 e13 ?_)
        refine g_iinc B (v4_4 + (-1)) [(0, .ref (kAd K 3)), (1, .int p1), (2, .int p2), (3, .ref (kAd K ((7 + p1.toNatClampNeg)))), (4, .int ((v4_4 + (-1))))] dX1_insert_48 4 rfl rfl (by decide) [1, 2, 3, 4, 0] rfl ?_
        refine g_goto (tgt := 23) B dX1_insert_51 (by decide) ?_
        have hf := sum_l (sat_some hf)
        exact g_sub hf [0, 1, 2, 3, 4] rfl
  · have hf := sat_f hf c3
    have hf := sat_some hf
    exact g_vret B rfl dX1_insert_22 hf
theorem c_X1_insert (l : Launch) (D : va_G) (Ad : Nat → Nat) (cI cP cII : ClassId) {σ : Mm} {p1 : Int32} {p2 : Int32} {τ : Mm} (h : f_X1_insert σ p1 p2 = some τ) : CtV l D (tysC cI cP cII) (wdC Ad cI cP cII) StC yX1_insert cX1_insert 5 0 σ [.ref (Ad 3), .int p1, .int p2] τ := by
  refine metV (Ad := Ad) (cI := cI) (cP := cP) (cII := cII) (by decide) (Nat.le_of_ble_eq_true rfl) (wdG_ok _ _ _) stOK_C rfl (fun K C G hR => ?_)
  have e : kAd K = Ad := G.2.2.2.2.2.1
  have C2 := cC_of C G
  have h9 := w_X1_insert C2 σ p1 p2 ⟨_, h, by rw [hR]; exact ⟨rfl, rfl⟩⟩
  rw [e] at h9
  exact h9
theorem ck_X1_insert {K : Kx} {cc : ByteArray} {own : String} {nL d : Nat} {rty : Option FieldType} (C : CxC K cc own nL d rty) {σ : Mm} {p1 : Int32} {p2 : Int32} {τ : Mm} (h : f_X1_insert σ p1 p2 = some τ) : CtV (kl K) (kD K) (ktys K) (kwf K) (kSt K) yX1_insert cX1_insert 5 0 σ [.ref (kAd K 3), .int p1, .int p2] τ := cC_eq C (P := fun l D tys wf St => CtV l D tys wf St yX1_insert cX1_insert 5 0 σ [.ref (kAd K 3), .int p1, .int p2] τ) (c_X1_insert _ _ _ _ _ _ h)
def f_X2_make (σ : Mm) (p0 : Int32) (p1 : Int32) (p2 : Int32) (p3 : Int32) : Option (Mm × Int32) :=
  some (σ, (((((1000 * p0) + (10 * p1)) + p2) * 10) + p3))
set_option maxHeartbeats 4000000 in
set_option maxRecDepth 100000 in
theorem w_X2_make {K : Kx} (C : CxC K cX2_make RX2 4 0 (some .int)) (σ : Mm) (p0 : Int32) (p1 : Int32) (p2 : Int32) (p3 : Int32) (hf : Sat (f_X2_make σ p0 p1 p2 p3) (fun o => kRt K (some (.int o.2)) o.1)) : Gj K σ 0 [(0, .int p0), (1, .int p1), (2, .int p2), (3, .int p3)] [] := by
  unfold f_X2_make at hf
  have B := C.1
  refine g_sipush (v := 1000) B dX2_make_0 (by decide) ?_
  refine g_iload_n B dX2_make_3 rfl 0 rfl ?_
  refine g_imul B dX2_make_4 ?_
  refine g_bipush (v := 10) B dX2_make_5 (by decide) ?_
  refine g_iload_n B dX2_make_7 rfl 1 rfl ?_
  refine g_imul B dX2_make_8 ?_
  refine g_iadd B dX2_make_9 ?_
  refine g_iload_n B dX2_make_10 rfl 2 rfl ?_
  refine g_iadd B dX2_make_11 ?_
  refine g_bipush (v := 10) B dX2_make_12 (by decide) ?_
  refine g_imul B dX2_make_14 ?_
  refine g_iload_n B dX2_make_15 rfl 3 rfl ?_
  refine g_iadd B dX2_make_16 ?_
  have hf := sat_some hf
  exact g_iret B rfl rfl dX2_make_17 hf
theorem c_X2_make (l : Launch) (D : va_G) (Ad : Nat → Nat) (cI cP cII : ClassId) {σ : Mm} {p0 : Int32} {p1 : Int32} {p2 : Int32} {p3 : Int32} {τ : Mm} {r : Int32} (h : f_X2_make σ p0 p1 p2 p3 = some (τ, r)) : CtI l D (tysC cI cP cII) (wdC Ad cI cP cII) StC yX2_make cX2_make 4 .int 0 σ [.int p0, .int p1, .int p2, .int p3] (τ, r) := by
  refine metI (Ad := Ad) (cI := cI) (cP := cP) (cII := cII) (by decide) (Nat.le_of_ble_eq_true rfl) (wdG_ok _ _ _) stOK_C rfl (fun K C G hR => ?_)
  exact w_X2_make (cC_of C G) σ p0 p1 p2 p3 ⟨_, h, by rw [hR]; exact ⟨rfl, rfl⟩⟩
theorem ck_X2_make {K : Kx} {cc : ByteArray} {own : String} {nL d : Nat} {rty : Option FieldType} (C : CxC K cc own nL d rty) {σ : Mm} {p0 : Int32} {p1 : Int32} {p2 : Int32} {p3 : Int32} {τ : Mm} {r : Int32} (h : f_X2_make σ p0 p1 p2 p3 = some (τ, r)) : CtI (kl K) (kD K) (ktys K) (kwf K) (kSt K) yX2_make cX2_make 4 .int 0 σ [.int p0, .int p1, .int p2, .int p3] (τ, r) := cC_eq C (P := fun l D tys wf St => CtI l D tys wf St yX2_make cX2_make 4 .int 0 σ [.int p0, .int p1, .int p2, .int p3] (τ, r)) (c_X2_make _ _ _ _ _ _ h)
def f_X4_goTogether (σ : Mm) (p0 : Int32) (p1 : Int32) (p2 : Int32) (p3 : Int32) : Option (Mm × Int32) :=
  (if p0 = 0 then some (σ, 1) else (if p2 = 0 then some (σ, 1) else (if p1 = p3 then (if p0 = p2 then some (σ, 1) else (if (p0 - p0 / 5 * 5) = (p2 - p2 / 5 * 5) then some (σ, 0) else some (σ, 1))) else some (σ, 0))))
set_option maxHeartbeats 4000000 in
set_option maxRecDepth 100000 in
theorem w_X4_goTogether {K : Kx} (C : CxC K cX4_goTogether RX4 4 0 (some .boolean)) (σ : Mm) (p0 : Int32) (p1 : Int32) (p2 : Int32) (p3 : Int32) (hf : Sat (f_X4_goTogether σ p0 p1 p2 p3) (fun o => kRt K (some (.int o.2)) o.1)) : Gj K σ 0 [(0, .int p0), (1, .int p1), (2, .int p2), (3, .int p3)] [] := by
  unfold f_X4_goTogether at hf
  have B := C.1
  refine g_iload_n B dX4_goTogether_0 rfl 0 rfl ?_
  refine g_if_eq (tgt := 8) B dX4_goTogether_1 (by decide) (fun c1 => ?_) (fun c1 => ?_)
  · have hf := sat_t hf c1
    refine g_iconst (v := 1) B dX4_goTogether_8 (by decide) ?_
    have hf := sat_some hf
    exact g_iret B rfl rfl dX4_goTogether_9 hf
  · have hf := sat_f hf c1
    refine g_iload_n B dX4_goTogether_4 rfl 2 rfl ?_
    refine g_if_ne (tgt := 10) B dX4_goTogether_5 (by decide) (fun c2 => ?_) (fun c2 => ?_)
    · have hf := sat_f hf c2
      refine g_iload_n B dX4_goTogether_10 rfl 1 rfl ?_
      refine g_iload_n B dX4_goTogether_11 rfl 3 rfl ?_
      refine g_icmp_ne (tgt := 33) B dX4_goTogether_12 (by decide) (fun c3 => ?_) (fun c3 => ?_)
      · have hf := sat_f hf c3
        refine g_iconst (v := 0) B dX4_goTogether_33 (by decide) ?_
        have hf := sat_some hf
        exact g_iret B rfl rfl dX4_goTogether_34 hf
      · have hf := sat_t hf c3
        refine g_iload_n B dX4_goTogether_15 rfl 0 rfl ?_
        refine g_iload_n B dX4_goTogether_16 rfl 2 rfl ?_
        refine g_icmp_eq (tgt := 29) B dX4_goTogether_17 (by decide) (fun c4 => ?_) (fun c4 => ?_)
        · have hf := sat_t hf c4
          refine g_iconst (v := 1) B dX4_goTogether_29 (by decide) ?_
          refine g_goto (tgt := 34) B dX4_goTogether_30 (by decide) ?_
          have hf := sat_some hf
          exact g_iret B rfl rfl dX4_goTogether_34 hf
        · have hf := sat_f hf c4
          refine g_iload_n B dX4_goTogether_20 rfl 0 rfl ?_
          refine g_iconst (v := 5) B dX4_goTogether_21 (by decide) ?_
          refine g_irem B (by decide) dX4_goTogether_22 ?_
          refine g_iload_n B dX4_goTogether_23 rfl 2 rfl ?_
          refine g_iconst (v := 5) B dX4_goTogether_24 (by decide) ?_
          refine g_irem B (by decide) dX4_goTogether_25 ?_
          refine g_icmp_eq (tgt := 33) B dX4_goTogether_26 (by decide) (fun c5 => ?_) (fun c5 => ?_)
          · have hf := sat_t hf c5
            refine g_iconst (v := 0) B dX4_goTogether_33 (by decide) ?_
            have hf := sat_some hf
            exact g_iret B rfl rfl dX4_goTogether_34 hf
          · have hf := sat_f hf c5
            refine g_iconst (v := 1) B dX4_goTogether_29 (by decide) ?_
            refine g_goto (tgt := 34) B dX4_goTogether_30 (by decide) ?_
            have hf := sat_some hf
            exact g_iret B rfl rfl dX4_goTogether_34 hf
    · have hf := sat_t hf c2
      refine g_iconst (v := 1) B dX4_goTogether_8 (by decide) ?_
      have hf := sat_some hf
      exact g_iret B rfl rfl dX4_goTogether_9 hf
theorem c_X4_goTogether (l : Launch) (D : va_G) (Ad : Nat → Nat) (cI cP cII : ClassId) {σ : Mm} {p0 : Int32} {p1 : Int32} {p2 : Int32} {p3 : Int32} {τ : Mm} {r : Int32} (h : f_X4_goTogether σ p0 p1 p2 p3 = some (τ, r)) : CtI l D (tysC cI cP cII) (wdC Ad cI cP cII) StC yX4_goTogether cX4_goTogether 4 .boolean 0 σ [.int p0, .int p1, .int p2, .int p3] (τ, r) := by
  refine metI (Ad := Ad) (cI := cI) (cP := cP) (cII := cII) (by decide) (Nat.le_of_ble_eq_true rfl) (wdG_ok _ _ _) stOK_C rfl (fun K C G hR => ?_)
  exact w_X4_goTogether (cC_of C G) σ p0 p1 p2 p3 ⟨_, h, by rw [hR]; exact ⟨rfl, rfl⟩⟩
theorem ck_X4_goTogether {K : Kx} {cc : ByteArray} {own : String} {nL d : Nat} {rty : Option FieldType} (C : CxC K cc own nL d rty) {σ : Mm} {p0 : Int32} {p1 : Int32} {p2 : Int32} {p3 : Int32} {τ : Mm} {r : Int32} (h : f_X4_goTogether σ p0 p1 p2 p3 = some (τ, r)) : CtI (kl K) (kD K) (ktys K) (kwf K) (kSt K) yX4_goTogether cX4_goTogether 4 .boolean 0 σ [.int p0, .int p1, .int p2, .int p3] (τ, r) := cC_eq C (P := fun l D tys wf St => CtI l D tys wf St yX4_goTogether cX4_goTogether 4 .boolean 0 σ [.int p0, .int p1, .int p2, .int p3] (τ, r)) (c_X4_goTogether _ _ _ _ _ _ h)
def f_X4_hand (σ : Mm) (p0 : Int32) (p1 : Int32) : Option (Mm × Int32) :=
  (if p0 = 0 then (if p1 = 0 then some (σ, 0) else some (σ, (-1))) else (if p0 < 1 then some (σ, (-1)) else (if 10 ≤ p0 then some (σ, (-1)) else (if p0 = 5 then some (σ, (-1)) else chk (inb p0 10) ((if (p1 - (stepsI p0)) < 1 then some (σ, (-1)) else (if (p1 - (stepsI p0)) ≤ 12 then some (σ, (p1 - (stepsI p0))) else some (σ, (-1)))))))))
set_option maxHeartbeats 4000000 in
set_option maxRecDepth 100000 in
theorem w_X4_hand {K : Kx} (C : CxC K cX4_hand RX4 3 0 (some .int)) (σ : Mm) (p0 : Int32) (p1 : Int32) (hf : Sat (f_X4_hand σ p0 p1) (fun o => kRt K (some (.int o.2)) o.1)) : Gj K σ 0 [(0, .int p0), (1, .int p1)] [] := by
  unfold f_X4_hand at hf
  have B := C.1
  refine g_iload_n B dX4_hand_0 rfl 0 rfl ?_
  refine g_if_ne (tgt := 14) B dX4_hand_1 (by decide) (fun c1 => ?_) (fun c1 => ?_)
  · have hf := sat_f hf c1
    refine g_iload_n B dX4_hand_14 rfl 0 rfl ?_
    refine g_iconst (v := 1) B dX4_hand_15 (by decide) ?_
    refine g_icmp_lt (tgt := 30) B dX4_hand_16 (by decide) (fun c2 => ?_) (fun c2 => ?_)
    · have hf := sat_t hf c2
      refine g_iconst (v := (-1)) B dX4_hand_30 (by decide) ?_
      have hf := sat_some hf
      exact g_iret B rfl rfl dX4_hand_31 hf
    · have hf := sat_f hf c2
      refine g_iload_n B dX4_hand_19 rfl 0 rfl ?_
      refine g_bipush (v := 10) B dX4_hand_20 (by decide) ?_
      refine g_icmp_ge (tgt := 30) B dX4_hand_22 (by decide) (fun c3 => ?_) (fun c3 => ?_)
      · have hf := sat_t hf c3
        refine g_iconst (v := (-1)) B dX4_hand_30 (by decide) ?_
        have hf := sat_some hf
        exact g_iret B rfl rfl dX4_hand_31 hf
      · have hf := sat_f hf c3
        refine g_iload_n B dX4_hand_25 rfl 0 rfl ?_
        refine g_iconst (v := 5) B dX4_hand_26 (by decide) ?_
        refine g_icmp_ne (tgt := 32) B dX4_hand_27 (by decide) (fun c4 => ?_) (fun c4 => ?_)
        · have hf := sat_f hf c4
          refine g_iload_n B dX4_hand_32 rfl 1 rfl ?_
          refine c_steps C (i := 0) (kk9 := fun _ => True) wf_RX4_9 dX4_hand_33 (fun t5 hT5 => ?_)
          refine g_iload_n B dX4_hand_36 rfl 0 rfl ?_
          obtain ⟨h6, hf⟩ := sat_chk hf
          refine c_stald C hT5 h6 dX4_hand_37 ?_
          refine g_isub B dX4_hand_38 ?_
          refine g_istore_n B [(0, .int p0), (1, .int p1), (2, .int ((p1 - (stepsI p0))))] dX4_hand_39 rfl (by decide) [1, 2, 0] rfl ?_
          refine g_iload_n B dX4_hand_40 rfl 2 rfl ?_
          refine g_iconst (v := 1) B dX4_hand_41 (by decide) ?_
          refine g_icmp_lt (tgt := 51) B dX4_hand_42 (by decide) (fun c7 => ?_) (fun c7 => ?_)
          · have hf := sat_t hf c7
            refine g_iconst (v := (-1)) B dX4_hand_51 (by decide) ?_
            refine g_goto (tgt := 56) B dX4_hand_52 (by decide) ?_
            have hf := sat_some hf
            exact g_iret B rfl rfl dX4_hand_56 hf
          · have hf := sat_f hf c7
            refine g_iload_n B dX4_hand_45 rfl 2 rfl ?_
            refine g_bipush (v := 12) B dX4_hand_46 (by decide) ?_
            refine g_icmp_le (tgt := 55) B dX4_hand_48 (by decide) (fun c8 => ?_) (fun c8 => ?_)
            · have hf := sat_t hf c8
              refine g_iload_n B dX4_hand_55 rfl 2 rfl ?_
              have hf := sat_some hf
              exact g_iret B rfl rfl dX4_hand_56 hf
            · have hf := sat_f hf c8
              refine g_iconst (v := (-1)) B dX4_hand_51 (by decide) ?_
              refine g_goto (tgt := 56) B dX4_hand_52 (by decide) ?_
              have hf := sat_some hf
              exact g_iret B rfl rfl dX4_hand_56 hf
        · have hf := sat_t hf c4
          refine g_iconst (v := (-1)) B dX4_hand_30 (by decide) ?_
          have hf := sat_some hf
          exact g_iret B rfl rfl dX4_hand_31 hf
  · have hf := sat_t hf c1
    refine g_iload_n B dX4_hand_4 rfl 1 rfl ?_
    refine g_if_ne (tgt := 12) B dX4_hand_5 (by decide) (fun c9 => ?_) (fun c9 => ?_)
    · have hf := sat_f hf c9
      refine g_iconst (v := (-1)) B dX4_hand_12 (by decide) ?_
      have hf := sat_some hf
      exact g_iret B rfl rfl dX4_hand_13 hf
    · have hf := sat_t hf c9
      refine g_iconst (v := 0) B dX4_hand_8 (by decide) ?_
      refine g_goto (tgt := 13) B dX4_hand_9 (by decide) ?_
      have hf := sat_some hf
      exact g_iret B rfl rfl dX4_hand_13 hf
theorem c_X4_hand (l : Launch) (D : va_G) (Ad : Nat → Nat) (cI cP cII : ClassId) {σ : Mm} {p0 : Int32} {p1 : Int32} {τ : Mm} {r : Int32} (h : f_X4_hand σ p0 p1 = some (τ, r)) : CtI l D (tysC cI cP cII) (wdC Ad cI cP cII) StC yX4_hand cX4_hand 3 .int 0 σ [.int p0, .int p1] (τ, r) := by
  refine metI (Ad := Ad) (cI := cI) (cP := cP) (cII := cII) (by decide) (Nat.le_of_ble_eq_true rfl) (wdG_ok _ _ _) stOK_C rfl (fun K C G hR => ?_)
  exact w_X4_hand (cC_of C G) σ p0 p1 ⟨_, h, by rw [hR]; exact ⟨rfl, rfl⟩⟩
theorem ck_X4_hand {K : Kx} {cc : ByteArray} {own : String} {nL d : Nat} {rty : Option FieldType} (C : CxC K cc own nL d rty) {σ : Mm} {p0 : Int32} {p1 : Int32} {τ : Mm} {r : Int32} (h : f_X4_hand σ p0 p1 = some (τ, r)) : CtI (kl K) (kD K) (ktys K) (kwf K) (kSt K) yX4_hand cX4_hand 3 .int 0 σ [.int p0, .int p1] (τ, r) := cC_eq C (P := fun l D tys wf St => CtI l D tys wf St yX4_hand cX4_hand 3 .int 0 σ [.int p0, .int p1] (τ, r)) (c_X4_hand _ _ _ _ _ _ h)
