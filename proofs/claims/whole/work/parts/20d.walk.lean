def f_X1_keyAt (σ : Mm) (p1 : Int32) (p2 : Int32) : Option (Mm × Int32) :=
  chk (inb p1 12) (chk (inC (7 + p1.toNatClampNeg) p2) (some (σ, (σ (7 + p1.toNatClampNeg) p2.toNatClampNeg))))
set_option maxHeartbeats 4000000 in
set_option maxRecDepth 100000 in
theorem w_X1_keyAt {K : Kx} (C : CxC K cX1_keyAt RX1 3 0 (some .int)) (σ : Mm) (p1 : Int32) (p2 : Int32) (hf : Sat (f_X1_keyAt σ p1 p2) (fun o => kRt K (some (.int o.2)) o.1)) : Gj K σ 0 [(0, .ref (kAd K 3)), (1, .int p1), (2, .int p2)] [] := by
  unfold f_X1_keyAt at hf
  have B := C.1
  refine g_aload_n B dX1_keyAt_0 rfl 0 rfl ?_
  refine c_get_D_keys C wf_RX1_13 dX1_keyAt_1 ?_
  refine g_iload_n B dX1_keyAt_4 rfl 1 rfl ?_
  obtain ⟨h1, hf⟩ := sat_chk hf
  refine c_aald4 C h1 dX1_keyAt_5 ?_
  refine g_iload_n B dX1_keyAt_6 rfl 2 rfl ?_
  obtain ⟨h2, hf⟩ := sat_chk hf
  refine c_iald C h2 dX1_keyAt_7 ?_
  have hf := sat_some hf
  exact g_iret B rfl rfl dX1_keyAt_8 hf
theorem c_X1_keyAt (l : Launch) (D : va_G) (Ad : Nat → Nat) (cI cP cII : ClassId) {σ : Mm} {p1 : Int32} {p2 : Int32} {τ : Mm} {r : Int32} (h : f_X1_keyAt σ p1 p2 = some (τ, r)) : CtI l D (tysC cI cP cII) (wdC Ad cI cP cII) StC yX1_keyAt cX1_keyAt 3 .int 0 σ [.ref (Ad 3), .int p1, .int p2] (τ, r) := by
  refine metI (Ad := Ad) (cI := cI) (cP := cP) (cII := cII) (by decide) (Nat.le_of_ble_eq_true rfl) (wdG_ok _ _ _) stOK_C rfl (fun K C G hR => ?_)
  have e : kAd K = Ad := G.2.2.2.2.2.1
  have C2 := cC_of C G
  have h9 := w_X1_keyAt C2 σ p1 p2 ⟨_, h, by rw [hR]; exact ⟨rfl, rfl⟩⟩
  rw [e] at h9
  exact h9
theorem ck_X1_keyAt {K : Kx} {cc : ByteArray} {own : String} {nL d : Nat} {rty : Option FieldType} (C : CxC K cc own nL d rty) {σ : Mm} {p1 : Int32} {p2 : Int32} {τ : Mm} {r : Int32} (h : f_X1_keyAt σ p1 p2 = some (τ, r)) : CtI (kl K) (kD K) (ktys K) (kwf K) (kSt K) yX1_keyAt cX1_keyAt 3 .int 0 σ [.ref (kAd K 3), .int p1, .int p2] (τ, r) := cC_eq C (P := fun l D tys wf St => CtI l D tys wf St yX1_keyAt cX1_keyAt 3 .int 0 σ [.ref (kAd K 3), .int p1, .int p2] (τ, r)) (c_X1_keyAt _ _ _ _ _ _ h)
def f_X2_name (σ : Mm) (p0 : Int32) : Option (Mm × Int32) :=
  some (σ, (p0 / 10))
set_option maxHeartbeats 4000000 in
set_option maxRecDepth 100000 in
theorem w_X2_name {K : Kx} (C : CxC K cX2_name RX2 1 0 (some .int)) (σ : Mm) (p0 : Int32) (hf : Sat (f_X2_name σ p0) (fun o => kRt K (some (.int o.2)) o.1)) : Gj K σ 0 [(0, .int p0)] [] := by
  unfold f_X2_name at hf
  have B := C.1
  refine g_iload_n B dX2_name_0 rfl 0 rfl ?_
  refine g_bipush (v := 10) B dX2_name_1 (by decide) ?_
  refine g_idiv B (by decide) dX2_name_3 ?_
  have hf := sat_some hf
  exact g_iret B rfl rfl dX2_name_4 hf
theorem c_X2_name (l : Launch) (D : va_G) (Ad : Nat → Nat) (cI cP cII : ClassId) {σ : Mm} {p0 : Int32} {τ : Mm} {r : Int32} (h : f_X2_name σ p0 = some (τ, r)) : CtI l D (tysC cI cP cII) (wdC Ad cI cP cII) StC yX2_name cX2_name 1 .int 0 σ [.int p0] (τ, r) := by
  refine metI (Ad := Ad) (cI := cI) (cP := cP) (cII := cII) (by decide) (Nat.le_of_ble_eq_true rfl) (wdG_ok _ _ _) stOK_C rfl (fun K C G hR => ?_)
  exact w_X2_name (cC_of C G) σ p0 ⟨_, h, by rw [hR]; exact ⟨rfl, rfl⟩⟩
theorem ck_X2_name {K : Kx} {cc : ByteArray} {own : String} {nL d : Nat} {rty : Option FieldType} (C : CxC K cc own nL d rty) {σ : Mm} {p0 : Int32} {τ : Mm} {r : Int32} (h : f_X2_name σ p0 = some (τ, r)) : CtI (kl K) (kD K) (ktys K) (kwf K) (kSt K) yX2_name cX2_name 1 .int 0 σ [.int p0] (τ, r) := cC_eq C (P := fun l D tys wf St => CtI l D tys wf St yX2_name cX2_name 1 .int 0 σ [.int p0] (τ, r)) (c_X2_name _ _ _ _ _ _ h)
def f_X5_hold (σ : Mm) (p1 : Int32) (p2 : Int32) (p3 : Int32) : Option (Mm × Int32) :=
  bn1 (f_X5_partWith σ p1 p2) (fun σ1 r1 => onul r1 (some (σ1, (-1))) (fun k1 => bn1 (f_X1_listHolds σ1 1 k1 p2) (fun σ2 r2 => bn1 (f_X5_isOutside σ2 p3 0 (r2 - 1)) (fun σ3 r3 => (if r3 = 0 then bn1 (f_X1_keyAt σ3 p2 p3) (fun σ5 r5 => bn1 (f_X2_name σ5 r5) (fun σ6 r6 => some (σ6, r6))) else some (σ3, (-3)))))))
set_option maxHeartbeats 4000000 in
set_option maxRecDepth 100000 in
theorem w_X5_hold {K : Kx} (C : CxC K cX5_hold RX5 6 3 (some .int)) (σ : Mm) (p1 : Int32) (p2 : Int32) (p3 : Int32) (hf : Sat (f_X5_hold σ p1 p2 p3) (fun o => kRt K (some (.int o.2)) o.1)) : Gj K σ 0 [(0, .ref (kAd K 0)), (1, .int p1), (2, .int p2), (3, .int p3)] [] := by
  unfold f_X5_hold at hf
  have B := C.1
  refine g_aload_n B dX5_hold_0 rfl 0 rfl ?_
  refine g_iload_n B dX5_hold_1 rfl 1 rfl ?_
  refine g_iload_n B dX5_hold_2 rfl 2 rfl ?_
  obtain ⟨σ1, r1, h1, hf⟩ := sat_ca1 hf
  refine g_cVA (rest := []) B (ck_X5_partWith C h1) mo_X5_partWith wm_RX5_51 (by decide) (cC_o3 C) rfl rfl rfl (Nat.le_of_ble_eq_true rfl) dX5_hold_3 ?_
  cases r1 with
  | none =>
    have hf := sat_on0 hf
    show Gj K σ1 6 [(0, .ref (kAd K 0)), (1, .int p1), (2, .int p2), (3, .int p3)] [.null]
    refine g_astoreN B [(0, .ref (kAd K 0)), (1, .int p1), (2, .int p2), (3, .int p3), (4, .null)] dX5_hold_6 (by decide) [1, 2, 3, 4, 0] rfl ?_
    refine g_aloadN B dX5_hold_8 4 rfl ?_
    refine g_ifnonnullN B dX5_hold_10 ?_
    refine g_iconst (v := (-1)) B dX5_hold_13 (by decide) ?_
    have hf := sat_some hf
    exact g_iret B rfl rfl dX5_hold_14 hf
  | some k1 =>
    have hf := sat_on1 hf
    show Gj K σ1 6 [(0, .ref (kAd K 0)), (1, .int p1), (2, .int p2), (3, .int p3)] [.ref (kAd K k1)]
    refine g_astore B [(0, .ref (kAd K 0)), (1, .int p1), (2, .int p2), (3, .int p3), (4, .ref (kAd K k1))] dX5_hold_6 (by decide) [1, 2, 3, 4, 0] rfl ?_
    refine g_aload B dX5_hold_8 4 rfl ?_
    refine g_ifnonnull (tgt := 15) B dX5_hold_10 (by decide) ?_
    refine g_aload_n B dX5_hold_15 rfl 0 rfl ?_
    refine c_get_F_desk C wf_RX5_23 dX5_hold_16 ?_
    refine g_aload_n B dX5_hold_19 rfl 0 rfl ?_
    refine c_get_F_open C wf_RX5_7 dX5_hold_20 ?_
    refine g_aload B dX5_hold_23 4 rfl ?_
    refine g_iload_n B dX5_hold_25 rfl 2 rfl ?_
    obtain ⟨σ2, r2, h2, hf⟩ := sat_ca1 hf
    refine g_cVI (rest := []) B (ck_X1_listHolds C h2) mo_X1_listHolds wm_RX5_74 (by decide) (cC_o1 C) rfl rfl rfl (Nat.le_of_ble_eq_true rfl) dX5_hold_26 ?_
    refine g_istore B [(0, .ref (kAd K 0)), (1, .int p1), (2, .int p2), (3, .int p3), (4, .ref (kAd K k1)), (5, .int r2)] dX5_hold_29 (by decide) [1, 2, 3, 4, 5, 0] rfl ?_
    refine g_iload_n B dX5_hold_31 rfl 3 rfl ?_
    refine g_iconst (v := 0) B dX5_hold_32 (by decide) ?_
    refine g_iload B dX5_hold_33 5 rfl ?_
    refine g_iconst (v := 1) B dX5_hold_35 (by decide) ?_
    refine g_isub B dX5_hold_36 ?_
    obtain ⟨σ3, r3, h3, hf⟩ := sat_ca1 hf
    refine g_cSI (rest := []) B (ck_X5_isOutside C h3) mo_X5_isOutside wm_RX5_27 (by decide) rfl rfl (Nat.le_of_ble_eq_true rfl) dX5_hold_37 ?_
    refine g_if_eq (tgt := 48) B dX5_hold_40 (by decide) (fun c4 => ?_) (fun c4 => ?_)
    · have hf := sat_t hf c4
      refine g_aload_n B dX5_hold_48 rfl 0 rfl ?_
      refine c_get_F_desk C wf_RX5_23 dX5_hold_49 ?_
      refine g_iload_n B dX5_hold_52 rfl 2 rfl ?_
      refine g_iload_n B dX5_hold_53 rfl 3 rfl ?_
      obtain ⟨σ5, r5, h5, hf⟩ := sat_ca1 hf
      refine g_cVI (rest := []) B (ck_X1_keyAt C h5) mo_X1_keyAt wm_RX5_78 (by decide) (cC_o1 C) rfl rfl rfl (Nat.le_of_ble_eq_true rfl) dX5_hold_54 ?_
      obtain ⟨σ6, r6, h6, hf⟩ := sat_ca1 hf
      refine g_cSI (rest := []) B (ck_X2_name C h6) mo_X2_name wm_RX5_82 (by decide) rfl rfl (Nat.le_of_ble_eq_true rfl) dX5_hold_57 ?_
      have hf := sat_some hf
      exact g_iret B rfl rfl dX5_hold_60 hf
    · have hf := sat_f hf c4
      refine g_bipush (v := (-3)) B dX5_hold_43 (by decide) ?_
      refine g_goto (tgt := 60) B dX5_hold_45 (by decide) ?_
      have hf := sat_some hf
      exact g_iret B rfl rfl dX5_hold_60 hf
theorem c_X5_hold (l : Launch) (D : va_G) (Ad : Nat → Nat) (cI cP cII : ClassId) {σ : Mm} {p1 : Int32} {p2 : Int32} {p3 : Int32} {τ : Mm} {r : Int32} (h : f_X5_hold σ p1 p2 p3 = some (τ, r)) : CtI l D (tysC cI cP cII) (wdC Ad cI cP cII) StC yX5_hold cX5_hold 6 .int 3 σ [.ref (Ad 0), .int p1, .int p2, .int p3] (τ, r) := by
  refine metI (Ad := Ad) (cI := cI) (cP := cP) (cII := cII) (by decide) (Nat.le_of_ble_eq_true rfl) (wdG_ok _ _ _) stOK_C rfl (fun K C G hR => ?_)
  have e : kAd K = Ad := G.2.2.2.2.2.1
  have C2 := cC_of C G
  have h9 := w_X5_hold C2 σ p1 p2 p3 ⟨_, h, by rw [hR]; exact ⟨rfl, rfl⟩⟩
  rw [e] at h9
  exact h9
theorem ck_X5_hold {K : Kx} {cc : ByteArray} {own : String} {nL d : Nat} {rty : Option FieldType} (C : CxC K cc own nL d rty) {σ : Mm} {p1 : Int32} {p2 : Int32} {p3 : Int32} {τ : Mm} {r : Int32} (h : f_X5_hold σ p1 p2 p3 = some (τ, r)) : CtI (kl K) (kD K) (ktys K) (kwf K) (kSt K) yX5_hold cX5_hold 6 .int 3 σ [.ref (kAd K 0), .int p1, .int p2, .int p3] (τ, r) := cC_eq C (P := fun l D tys wf St => CtI l D tys wf St yX5_hold cX5_hold 6 .int 3 σ [.ref (kAd K 0), .int p1, .int p2, .int p3] (τ, r)) (c_X5_hold _ _ _ _ _ _ h)
def f_X2_shift (σ : Mm) (p0 : Int32) (p1 : Int32) : Option (Mm × Int32) :=
  (if ((p0 / 100) - (p0 / 100) / 100 * 100) = 0 then some (σ, 0) else (if ((p1 / 100) - (p1 / 100) / 100 * 100) = 0 then some (σ, 0) else some (σ, (if 0 ≤ (((p1 / 100) - (p1 / 100) / 100 * 100) - ((p0 / 100) - (p0 / 100) / 100 * 100)) then (((p1 / 100) - (p1 / 100) / 100 * 100) - ((p0 / 100) - (p0 / 100) / 100 * 100)) else 0 - (((p1 / 100) - (p1 / 100) / 100 * 100) - ((p0 / 100) - (p0 / 100) / 100 * 100))))))
set_option maxHeartbeats 4000000 in
set_option maxRecDepth 100000 in
theorem w_X2_shift {K : Kx} (C : CxC K cX2_shift RX2 4 1 (some .int)) (σ : Mm) (p0 : Int32) (p1 : Int32) (hf : Sat (f_X2_shift σ p0 p1) (fun o => kRt K (some (.int o.2)) o.1)) : Gj K σ 0 [(0, .int p0), (1, .int p1)] [] := by
  unfold f_X2_shift at hf
  have B := C.1
  refine g_iload_n B dX2_shift_0 rfl 0 rfl ?_
  refine g_bipush (v := 100) B dX2_shift_1 (by decide) ?_
  refine g_idiv B (by decide) dX2_shift_3 ?_
  refine g_bipush (v := 100) B dX2_shift_4 (by decide) ?_
  refine g_irem B (by decide) dX2_shift_6 ?_
  refine g_istore_n B [(0, .int p0), (1, .int p1), (2, .int (((p0 / 100) - (p0 / 100) / 100 * 100)))] dX2_shift_7 rfl (by decide) [1, 2, 0] rfl ?_
  refine g_iload_n B dX2_shift_8 rfl 1 rfl ?_
  refine g_bipush (v := 100) B dX2_shift_9 (by decide) ?_
  refine g_idiv B (by decide) dX2_shift_11 ?_
  refine g_bipush (v := 100) B dX2_shift_12 (by decide) ?_
  refine g_irem B (by decide) dX2_shift_14 ?_
  refine g_istore_n B [(0, .int p0), (1, .int p1), (2, .int (((p0 / 100) - (p0 / 100) / 100 * 100))), (3, .int (((p1 / 100) - (p1 / 100) / 100 * 100)))] dX2_shift_15 rfl (by decide) [1, 2, 3, 0] rfl ?_
  refine g_iload_n B dX2_shift_16 rfl 2 rfl ?_
  refine g_if_eq (tgt := 24) B dX2_shift_17 (by decide) (fun c1 => ?_) (fun c1 => ?_)
  · have hf := sat_t hf c1
    refine g_iconst (v := 0) B dX2_shift_24 (by decide) ?_
    refine g_goto (tgt := 34) B dX2_shift_25 (by decide) ?_
    have hf := sat_some hf
    exact g_iret B rfl rfl dX2_shift_34 hf
  · have hf := sat_f hf c1
    refine g_iload_n B dX2_shift_20 rfl 3 rfl ?_
    refine g_if_ne (tgt := 28) B dX2_shift_21 (by decide) (fun c2 => ?_) (fun c2 => ?_)
    · have hf := sat_f hf c2
      refine g_iload_n B dX2_shift_28 rfl 3 rfl ?_
      refine g_iload_n B dX2_shift_29 rfl 2 rfl ?_
      refine g_isub B dX2_shift_30 ?_
      refine g_mabs B wm_RX2_21 wms_abs wmi wmc_abs (by decide) (Nat.le_of_ble_eq_true rfl) dX2_shift_31 ?_
      have hf := sat_some hf
      exact g_iret B rfl rfl dX2_shift_34 hf
    · have hf := sat_t hf c2
      refine g_iconst (v := 0) B dX2_shift_24 (by decide) ?_
      refine g_goto (tgt := 34) B dX2_shift_25 (by decide) ?_
      have hf := sat_some hf
      exact g_iret B rfl rfl dX2_shift_34 hf
theorem c_X2_shift (l : Launch) (D : va_G) (Ad : Nat → Nat) (cI cP cII : ClassId) {σ : Mm} {p0 : Int32} {p1 : Int32} {τ : Mm} {r : Int32} (h : f_X2_shift σ p0 p1 = some (τ, r)) : CtI l D (tysC cI cP cII) (wdC Ad cI cP cII) StC yX2_shift cX2_shift 4 .int 1 σ [.int p0, .int p1] (τ, r) := by
  refine metI (Ad := Ad) (cI := cI) (cP := cP) (cII := cII) (by decide) (Nat.le_of_ble_eq_true rfl) (wdG_ok _ _ _) stOK_C rfl (fun K C G hR => ?_)
  exact w_X2_shift (cC_of C G) σ p0 p1 ⟨_, h, by rw [hR]; exact ⟨rfl, rfl⟩⟩
theorem ck_X2_shift {K : Kx} {cc : ByteArray} {own : String} {nL d : Nat} {rty : Option FieldType} (C : CxC K cc own nL d rty) {σ : Mm} {p0 : Int32} {p1 : Int32} {τ : Mm} {r : Int32} (h : f_X2_shift σ p0 p1 = some (τ, r)) : CtI (kl K) (kD K) (ktys K) (kwf K) (kSt K) yX2_shift cX2_shift 4 .int 1 σ [.int p0, .int p1] (τ, r) := cC_eq C (P := fun l D tys wf St => CtI l D tys wf St yX2_shift cX2_shift 4 .int 1 σ [.int p0, .int p1] (τ, r)) (c_X2_shift _ _ _ _ _ _ h)
def f_X2_string (σ : Mm) (p0 : Int32) : Option (Mm × Int32) :=
  some (σ, (p0 / 10000))
set_option maxHeartbeats 4000000 in
set_option maxRecDepth 100000 in
theorem w_X2_string {K : Kx} (C : CxC K cX2_string RX2 1 0 (some .int)) (σ : Mm) (p0 : Int32) (hf : Sat (f_X2_string σ p0) (fun o => kRt K (some (.int o.2)) o.1)) : Gj K σ 0 [(0, .int p0)] [] := by
  unfold f_X2_string at hf
  have B := C.1
  refine g_iload_n B dX2_string_0 rfl 0 rfl ?_
  refine g_sipush (v := 10000) B dX2_string_1 (by decide) ?_
  refine g_idiv B (by decide) dX2_string_4 ?_
  have hf := sat_some hf
  exact g_iret B rfl rfl dX2_string_5 hf
theorem c_X2_string (l : Launch) (D : va_G) (Ad : Nat → Nat) (cI cP cII : ClassId) {σ : Mm} {p0 : Int32} {τ : Mm} {r : Int32} (h : f_X2_string σ p0 = some (τ, r)) : CtI l D (tysC cI cP cII) (wdC Ad cI cP cII) StC yX2_string cX2_string 1 .int 0 σ [.int p0] (τ, r) := by
  refine metI (Ad := Ad) (cI := cI) (cP := cP) (cII := cII) (by decide) (Nat.le_of_ble_eq_true rfl) (wdG_ok _ _ _) stOK_C rfl (fun K C G hR => ?_)
  exact w_X2_string (cC_of C G) σ p0 ⟨_, h, by rw [hR]; exact ⟨rfl, rfl⟩⟩
theorem ck_X2_string {K : Kx} {cc : ByteArray} {own : String} {nL d : Nat} {rty : Option FieldType} (C : CxC K cc own nL d rty) {σ : Mm} {p0 : Int32} {τ : Mm} {r : Int32} (h : f_X2_string σ p0 = some (τ, r)) : CtI (kl K) (kD K) (ktys K) (kwf K) (kSt K) yX2_string cX2_string 1 .int 0 σ [.int p0] (τ, r) := cC_eq C (P := fun l D tys wf St => CtI l D tys wf St yX2_string cX2_string 1 .int 0 σ [.int p0] (τ, r)) (c_X2_string _ _ _ _ _ _ h)
def f_X1_stepCost (σ : Mm) (p0 : Int32) (p1 : Int32) (p2 : Int32) : Option (Mm × Int32) :=
  bn1 (f_X2_string σ p1) (fun σ1 r1 => bn1 (f_X2_string σ1 p0) (fun σ2 r2 => bn1 (f_X2_shift σ2 p0 p1) (fun σ3 r3 => (if r3 = 0 then some (σ3, (if 0 ≤ (r1 - r2) then (r1 - r2) else 0 - (r1 - r2))) else (if (p2 &&& 9) = 0 then (if (p2 &&& 2) = 0 then some (σ3, ((if 0 ≤ (r1 - r2) then (r1 - r2) else 0 - (r1 - r2)) + (2 * r3))) else some (σ3, 1000000)) else some (σ3, (if 0 ≤ (r1 - r2) then (r1 - r2) else 0 - (r1 - r2))))))))
set_option maxHeartbeats 4000000 in
set_option maxRecDepth 100000 in
theorem w_X1_stepCost {K : Kx} (C : CxC K cX1_stepCost RX1 5 2 (some .int)) (σ : Mm) (p0 : Int32) (p1 : Int32) (p2 : Int32) (hf : Sat (f_X1_stepCost σ p0 p1 p2) (fun o => kRt K (some (.int o.2)) o.1)) : Gj K σ 0 [(0, .int p0), (1, .int p1), (2, .int p2)] [] := by
  unfold f_X1_stepCost at hf
  have B := C.1
  refine g_iload_n B dX1_stepCost_0 rfl 1 rfl ?_
  obtain ⟨σ1, r1, h1, hf⟩ := sat_ca1 hf
  refine g_cSI (rest := []) B (ck_X2_string C h1) mo_X2_string wm_RX1_105 (by decide) rfl rfl (Nat.le_of_ble_eq_true rfl) dX1_stepCost_1 ?_
  refine g_iload_n B dX1_stepCost_4 rfl 0 rfl ?_
  obtain ⟨σ2, r2, h2, hf⟩ := sat_ca1 hf
  refine g_cSI (rest := [.int r1]) B (ck_X2_string C h2) mo_X2_string wm_RX1_105 (by decide) rfl rfl (Nat.le_of_ble_eq_true rfl) dX1_stepCost_5 ?_
  refine g_isub B dX1_stepCost_8 ?_
  refine g_mabs B wm_RX1_108 wms_abs wmi wmc_abs (by decide) (Nat.le_of_ble_eq_true rfl) dX1_stepCost_9 ?_
  refine g_istore_n B [(0, .int p0), (1, .int p1), (2, .int p2), (3, .int ((if 0 ≤ (r1 - r2) then (r1 - r2) else 0 - (r1 - r2))))] dX1_stepCost_12 rfl (by decide) [1, 2, 3, 0] rfl ?_
  refine g_iload_n B dX1_stepCost_13 rfl 0 rfl ?_
  refine g_iload_n B dX1_stepCost_14 rfl 1 rfl ?_
  obtain ⟨σ3, r3, h3, hf⟩ := sat_ca1 hf
  refine g_cSI (rest := []) B (ck_X2_shift C h3) mo_X2_shift wm_RX1_111 (by decide) rfl rfl (Nat.le_of_ble_eq_true rfl) dX1_stepCost_15 ?_
  refine g_istore B [(0, .int p0), (1, .int p1), (2, .int p2), (3, .int ((if 0 ≤ (r1 - r2) then (r1 - r2) else 0 - (r1 - r2)))), (4, .int r3)] dX1_stepCost_18 (by decide) [1, 2, 3, 4, 0] rfl ?_
  refine g_iload B dX1_stepCost_20 4 rfl ?_
  refine g_if_eq (tgt := 32) B dX1_stepCost_22 (by decide) (fun c4 => ?_) (fun c4 => ?_)
  · have hf := sat_t hf c4
    refine g_iload_n B dX1_stepCost_32 rfl 3 rfl ?_
    have hf := sat_some hf
    exact g_iret B rfl rfl dX1_stepCost_33 hf
  · have hf := sat_f hf c4
    refine g_iload_n B dX1_stepCost_25 rfl 2 rfl ?_
    refine g_bipush (v := 9) B dX1_stepCost_26 (by decide) ?_
    refine g_iand B dX1_stepCost_28 ?_
    refine g_if_eq (tgt := 34) B dX1_stepCost_29 (by decide) (fun c5 => ?_) (fun c5 => ?_)
    · have hf := sat_t hf c5
      refine g_iload_n B dX1_stepCost_34 rfl 2 rfl ?_
      refine g_iconst (v := 2) B dX1_stepCost_35 (by decide) ?_
      refine g_iand B dX1_stepCost_36 ?_
      refine g_if_eq (tgt := 45) B dX1_stepCost_37 (by decide) (fun c6 => ?_) (fun c6 => ?_)
      · have hf := sat_t hf c6
        refine g_iload_n B dX1_stepCost_45 rfl 3 rfl ?_
        refine g_iconst (v := 2) B dX1_stepCost_46 (by decide) ?_
        refine g_iload B dX1_stepCost_47 4 rfl ?_
        refine g_imul B dX1_stepCost_49 ?_
        refine g_iadd B dX1_stepCost_50 ?_
        have hf := sat_some hf
        exact g_iret B rfl rfl dX1_stepCost_51 hf
      · have hf := sat_f hf c6
        refine g_ldc B wk_RX1_84 dX1_stepCost_40 ?_
        refine g_goto (tgt := 51) B dX1_stepCost_42 (by decide) ?_
        have hf := sat_some hf
        exact g_iret B rfl rfl dX1_stepCost_51 hf
    · have hf := sat_f hf c5
      refine g_iload_n B dX1_stepCost_32 rfl 3 rfl ?_
      have hf := sat_some hf
      exact g_iret B rfl rfl dX1_stepCost_33 hf
theorem c_X1_stepCost (l : Launch) (D : va_G) (Ad : Nat → Nat) (cI cP cII : ClassId) {σ : Mm} {p0 : Int32} {p1 : Int32} {p2 : Int32} {τ : Mm} {r : Int32} (h : f_X1_stepCost σ p0 p1 p2 = some (τ, r)) : CtI l D (tysC cI cP cII) (wdC Ad cI cP cII) StC yX1_stepCost cX1_stepCost 5 .int 2 σ [.int p0, .int p1, .int p2] (τ, r) := by
  refine metI (Ad := Ad) (cI := cI) (cP := cP) (cII := cII) (by decide) (Nat.le_of_ble_eq_true rfl) (wdG_ok _ _ _) stOK_C rfl (fun K C G hR => ?_)
  exact w_X1_stepCost (cC_of C G) σ p0 p1 p2 ⟨_, h, by rw [hR]; exact ⟨rfl, rfl⟩⟩
theorem ck_X1_stepCost {K : Kx} {cc : ByteArray} {own : String} {nL d : Nat} {rty : Option FieldType} (C : CxC K cc own nL d rty) {σ : Mm} {p0 : Int32} {p1 : Int32} {p2 : Int32} {τ : Mm} {r : Int32} (h : f_X1_stepCost σ p0 p1 p2 = some (τ, r)) : CtI (kl K) (kD K) (ktys K) (kwf K) (kSt K) yX1_stepCost cX1_stepCost 5 .int 2 σ [.int p0, .int p1, .int p2] (τ, r) := cC_eq C (P := fun l D tys wf St => CtI l D tys wf St yX1_stepCost cX1_stepCost 5 .int 2 σ [.int p0, .int p1, .int p2] (τ, r)) (c_X1_stepCost _ _ _ _ _ _ h)
def f_X2_greaterWay (σ : Mm) (p0 : Int32) : Option (Mm × Int32) :=
  some (σ, (p0 - p0 / 10 * 10))
set_option maxHeartbeats 4000000 in
set_option maxRecDepth 100000 in
theorem w_X2_greaterWay {K : Kx} (C : CxC K cX2_greaterWay RX2 1 0 (some .int)) (σ : Mm) (p0 : Int32) (hf : Sat (f_X2_greaterWay σ p0) (fun o => kRt K (some (.int o.2)) o.1)) : Gj K σ 0 [(0, .int p0)] [] := by
  unfold f_X2_greaterWay at hf
  have B := C.1
  refine g_iload_n B dX2_greaterWay_0 rfl 0 rfl ?_
  refine g_bipush (v := 10) B dX2_greaterWay_1 (by decide) ?_
  refine g_irem B (by decide) dX2_greaterWay_3 ?_
  have hf := sat_some hf
  exact g_iret B rfl rfl dX2_greaterWay_4 hf
theorem c_X2_greaterWay (l : Launch) (D : va_G) (Ad : Nat → Nat) (cI cP cII : ClassId) {σ : Mm} {p0 : Int32} {τ : Mm} {r : Int32} (h : f_X2_greaterWay σ p0 = some (τ, r)) : CtI l D (tysC cI cP cII) (wdC Ad cI cP cII) StC yX2_greaterWay cX2_greaterWay 1 .int 0 σ [.int p0] (τ, r) := by
  refine metI (Ad := Ad) (cI := cI) (cP := cP) (cII := cII) (by decide) (Nat.le_of_ble_eq_true rfl) (wdG_ok _ _ _) stOK_C rfl (fun K C G hR => ?_)
  exact w_X2_greaterWay (cC_of C G) σ p0 ⟨_, h, by rw [hR]; exact ⟨rfl, rfl⟩⟩
theorem ck_X2_greaterWay {K : Kx} {cc : ByteArray} {own : String} {nL d : Nat} {rty : Option FieldType} (C : CxC K cc own nL d rty) {σ : Mm} {p0 : Int32} {τ : Mm} {r : Int32} (h : f_X2_greaterWay σ p0 = some (τ, r)) : CtI (kl K) (kD K) (ktys K) (kwf K) (kSt K) yX2_greaterWay cX2_greaterWay 1 .int 0 σ [.int p0] (τ, r) := cC_eq C (P := fun l D tys wf St => CtI l D tys wf St yX2_greaterWay cX2_greaterWay 1 .int 0 σ [.int p0] (τ, r)) (c_X2_greaterWay _ _ _ _ _ _ h)
def f_X2_way (σ : Mm) (p0 : Int32) : Option (Mm × Int32) :=
  some (σ, ((p0 / 10) - (p0 / 10) / 10 * 10))
set_option maxHeartbeats 4000000 in
set_option maxRecDepth 100000 in
theorem w_X2_way {K : Kx} (C : CxC K cX2_way RX2 1 0 (some .int)) (σ : Mm) (p0 : Int32) (hf : Sat (f_X2_way σ p0) (fun o => kRt K (some (.int o.2)) o.1)) : Gj K σ 0 [(0, .int p0)] [] := by
  unfold f_X2_way at hf
  have B := C.1
  refine g_iload_n B dX2_way_0 rfl 0 rfl ?_
  refine g_bipush (v := 10) B dX2_way_1 (by decide) ?_
  refine g_idiv B (by decide) dX2_way_3 ?_
  refine g_bipush (v := 10) B dX2_way_4 (by decide) ?_
  refine g_irem B (by decide) dX2_way_6 ?_
  have hf := sat_some hf
  exact g_iret B rfl rfl dX2_way_7 hf
theorem c_X2_way (l : Launch) (D : va_G) (Ad : Nat → Nat) (cI cP cII : ClassId) {σ : Mm} {p0 : Int32} {τ : Mm} {r : Int32} (h : f_X2_way σ p0 = some (τ, r)) : CtI l D (tysC cI cP cII) (wdC Ad cI cP cII) StC yX2_way cX2_way 1 .int 0 σ [.int p0] (τ, r) := by
  refine metI (Ad := Ad) (cI := cI) (cP := cP) (cII := cII) (by decide) (Nat.le_of_ble_eq_true rfl) (wdG_ok _ _ _) stOK_C rfl (fun K C G hR => ?_)
  exact w_X2_way (cC_of C G) σ p0 ⟨_, h, by rw [hR]; exact ⟨rfl, rfl⟩⟩
theorem ck_X2_way {K : Kx} {cc : ByteArray} {own : String} {nL d : Nat} {rty : Option FieldType} (C : CxC K cc own nL d rty) {σ : Mm} {p0 : Int32} {τ : Mm} {r : Int32} (h : f_X2_way σ p0 = some (τ, r)) : CtI (kl K) (kD K) (ktys K) (kwf K) (kSt K) yX2_way cX2_way 1 .int 0 σ [.int p0] (τ, r) := cC_eq C (P := fun l D tys wf St => CtI l D tys wf St yX2_way cX2_way 1 .int 0 σ [.int p0] (τ, r)) (c_X2_way _ _ _ _ _ _ h)
def f_X4_extension (σ : Mm) (p0 : Int32) : Option (Mm × Int32) :=
  some (σ, (p0 / 5))
set_option maxHeartbeats 4000000 in
set_option maxRecDepth 100000 in
theorem w_X4_extension {K : Kx} (C : CxC K cX4_extension RX4 1 0 (some .int)) (σ : Mm) (p0 : Int32) (hf : Sat (f_X4_extension σ p0) (fun o => kRt K (some (.int o.2)) o.1)) : Gj K σ 0 [(0, .int p0)] [] := by
  unfold f_X4_extension at hf
  have B := C.1
  refine g_iload_n B dX4_extension_0 rfl 0 rfl ?_
  refine g_iconst (v := 5) B dX4_extension_1 (by decide) ?_
  refine g_idiv B (by decide) dX4_extension_2 ?_
  have hf := sat_some hf
  exact g_iret B rfl rfl dX4_extension_3 hf
theorem c_X4_extension (l : Launch) (D : va_G) (Ad : Nat → Nat) (cI cP cII : ClassId) {σ : Mm} {p0 : Int32} {τ : Mm} {r : Int32} (h : f_X4_extension σ p0 = some (τ, r)) : CtI l D (tysC cI cP cII) (wdC Ad cI cP cII) StC yX4_extension cX4_extension 1 .int 0 σ [.int p0] (τ, r) := by
  refine metI (Ad := Ad) (cI := cI) (cP := cP) (cII := cII) (by decide) (Nat.le_of_ble_eq_true rfl) (wdG_ok _ _ _) stOK_C rfl (fun K C G hR => ?_)
  exact w_X4_extension (cC_of C G) σ p0 ⟨_, h, by rw [hR]; exact ⟨rfl, rfl⟩⟩
theorem ck_X4_extension {K : Kx} {cc : ByteArray} {own : String} {nL d : Nat} {rty : Option FieldType} (C : CxC K cc own nL d rty) {σ : Mm} {p0 : Int32} {τ : Mm} {r : Int32} (h : f_X4_extension σ p0 = some (τ, r)) : CtI (kl K) (kD K) (ktys K) (kwf K) (kSt K) yX4_extension cX4_extension 1 .int 0 σ [.int p0] (τ, r) := cC_eq C (P := fun l D tys wf St => CtI l D tys wf St yX4_extension cX4_extension 1 .int 0 σ [.int p0] (τ, r)) (c_X4_extension _ _ _ _ _ _ h)
def f_X2_extensions (σ : Mm) (p0 : Int32) : Option (Mm × Int32) :=
  bn1 (f_X2_way σ p0) (fun σ1 r1 => bn1 (f_X4_extension σ1 r1) (fun σ2 r2 => bn1 (f_X2_greaterWay σ2 p0) (fun σ3 r3 => bn1 (f_X4_extension σ3 r3) (fun σ4 r4 => some (σ4, (r2 + r4))))))
set_option maxHeartbeats 4000000 in
set_option maxRecDepth 100000 in
theorem w_X2_extensions {K : Kx} (C : CxC K cX2_extensions RX2 1 1 (some .int)) (σ : Mm) (p0 : Int32) (hf : Sat (f_X2_extensions σ p0) (fun o => kRt K (some (.int o.2)) o.1)) : Gj K σ 0 [(0, .int p0)] [] := by
  unfold f_X2_extensions at hf
  have B := C.1
  refine g_iload_n B dX2_extensions_0 rfl 0 rfl ?_
  obtain ⟨σ1, r1, h1, hf⟩ := sat_ca1 hf
  refine g_cSI (rest := []) B (ck_X2_way C h1) mo_X2_way wm_RX2_7 (by decide) rfl rfl (Nat.le_of_ble_eq_true rfl) dX2_extensions_1 ?_
  obtain ⟨σ2, r2, h2, hf⟩ := sat_ca1 hf
  refine g_cSI (rest := []) B (ck_X4_extension C h2) mo_X4_extension wm_RX2_13 (by decide) rfl rfl (Nat.le_of_ble_eq_true rfl) dX2_extensions_4 ?_
  refine g_iload_n B dX2_extensions_7 rfl 0 rfl ?_
  obtain ⟨σ3, r3, h3, hf⟩ := sat_ca1 hf
  refine g_cSI (rest := [.int r2]) B (ck_X2_greaterWay C h3) mo_X2_greaterWay wm_RX2_18 (by decide) rfl rfl (Nat.le_of_ble_eq_true rfl) dX2_extensions_8 ?_
  obtain ⟨σ4, r4, h4, hf⟩ := sat_ca1 hf
  refine g_cSI (rest := [.int r2]) B (ck_X4_extension C h4) mo_X4_extension wm_RX2_13 (by decide) rfl rfl (Nat.le_of_ble_eq_true rfl) dX2_extensions_11 ?_
  refine g_iadd B dX2_extensions_14 ?_
  have hf := sat_some hf
  exact g_iret B rfl rfl dX2_extensions_15 hf
theorem c_X2_extensions (l : Launch) (D : va_G) (Ad : Nat → Nat) (cI cP cII : ClassId) {σ : Mm} {p0 : Int32} {τ : Mm} {r : Int32} (h : f_X2_extensions σ p0 = some (τ, r)) : CtI l D (tysC cI cP cII) (wdC Ad cI cP cII) StC yX2_extensions cX2_extensions 1 .int 1 σ [.int p0] (τ, r) := by
  refine metI (Ad := Ad) (cI := cI) (cP := cP) (cII := cII) (by decide) (Nat.le_of_ble_eq_true rfl) (wdG_ok _ _ _) stOK_C rfl (fun K C G hR => ?_)
  exact w_X2_extensions (cC_of C G) σ p0 ⟨_, h, by rw [hR]; exact ⟨rfl, rfl⟩⟩
theorem ck_X2_extensions {K : Kx} {cc : ByteArray} {own : String} {nL d : Nat} {rty : Option FieldType} (C : CxC K cc own nL d rty) {σ : Mm} {p0 : Int32} {τ : Mm} {r : Int32} (h : f_X2_extensions σ p0 = some (τ, r)) : CtI (kl K) (kD K) (ktys K) (kwf K) (kSt K) yX2_extensions cX2_extensions 1 .int 1 σ [.int p0] (τ, r) := cC_eq C (P := fun l D tys wf St => CtI l D tys wf St yX2_extensions cX2_extensions 1 .int 1 σ [.int p0] (τ, r)) (c_X2_extensions _ _ _ _ _ _ h)
def f_X1_costFrom_s24 (p2 : Int32) (k1a : Nat) (p3 : Int32) (σ4 : Mm) (v4_5 : Int32) (v4_6 : Int32) : Option ((Mm × Int32 × Int32) ⊕ (Mm × Int32)) :=
  chk (inC 5 (p2 + 1)) ((if (σ4 5 (p2 + 1).toNatClampNeg) ≤ v4_6 then some (.inr (σ4, v4_5)) else chk (inb (p2 + 1) 12) (chk (inC (19 + (p2 + 1).toNatClampNeg) v4_6) (chk (inb (p2 + 1) 12) (chk (inC (7 + (p2 + 1).toNatClampNeg) v4_6) (chk (inC (k1a + 5) (p2 + 1)) (bn1 (f_X1_stepCost σ4 p3 (σ4 (7 + (p2 + 1).toNatClampNeg) v4_6.toNatClampNeg) (σ4 (k1a + 5) (p2 + 1).toNatClampNeg)) (fun σ13 r13 => some (.inl (σ13, (if ((σ4 (19 + (p2 + 1).toNatClampNeg) v4_6.toNatClampNeg) + r13) < v4_5 then ((σ4 (19 + (p2 + 1).toNatClampNeg) v4_6.toNatClampNeg) + r13) else v4_5), (v4_6 + 1)))))))))))
def f_X1_costFrom (σ : Mm) (k1a : Nat) (p2 : Int32) (p3 : Int32) : Option (Mm × Int32) :=
  chk (kdC k1a == 2) (bn1 ((if (σ k1a 0) ≤ (p2 + 1) then some (σ, 0) else bn1 (lq2 (f_X1_costFrom_s24 p2 k1a p3) fu σ 1000000 0) (fun σ5 v5_5 => some (σ5, v5_5))) : Option (Mm × Int32)) (fun σ2 v2_5 => bn1 (f_X2_extensions σ2 p3) (fun σ3 r3 => some (σ3, (if (v2_5 + r3) < 1000000 then (v2_5 + r3) else 1000000)))))
set_option maxHeartbeats 4000000 in
set_option maxRecDepth 100000 in
theorem w_X1_costFrom {K : Kx} (C : CxC K cX1_costFrom RX1 7 3 (some .int)) (σ : Mm) (k1a : Nat) (p2 : Int32) (p3 : Int32) (hf : Sat (f_X1_costFrom σ k1a p2 p3) (fun o => kRt K (some (.int o.2)) o.1)) : Gj K σ 0 [(0, .ref (kAd K 3)), (1, .ref (kAd K k1a)), (2, .int p2), (3, .int p3)] [] := by
  unfold f_X1_costFrom at hf
  have B := C.1
  refine g_iload_n B dX1_costFrom_0 rfl 2 rfl ?_
  refine g_iconst (v := 1) B dX1_costFrom_1 (by decide) ?_
  refine g_iadd B dX1_costFrom_2 ?_
  refine g_istore B [(0, .ref (kAd K 3)), (1, .ref (kAd K k1a)), (2, .int p2), (3, .int p3), (4, .int ((p2 + 1)))] dX1_costFrom_3 (by decide) [1, 2, 3, 4, 0] rfl ?_
  refine g_iconst (v := 0) B dX1_costFrom_5 (by decide) ?_
  refine g_istore B [(0, .ref (kAd K 3)), (1, .ref (kAd K k1a)), (2, .int p2), (3, .int p3), (4, .int ((p2 + 1))), (5, .int 0)] dX1_costFrom_6 (by decide) [1, 2, 3, 4, 5, 0] rfl ?_
  refine g_iload B dX1_costFrom_8 4 rfl ?_
  refine g_aload_n B dX1_costFrom_10 rfl 1 rfl ?_
  obtain ⟨h1, hf⟩ := sat_chk hf
  refine c_get_P_count C (eq_of_beq h1) wf_RX1_68 dX1_costFrom_11 ?_
  have hf := sat_cu1 (G := fun σ2 v2_5 => Gj K σ2 81 [(3, .int p3), (5, .int v2_5)] []) hf (by
    intro σ2 v2_5 hf
    refine g_ldc B wk_RX1_84 dX1_costFrom_81 ?_
    refine g_iload B dX1_costFrom_83 1 rfl ?_
    refine g_iload_n B dX1_costFrom_85 rfl 0 rfl ?_
    obtain ⟨σ3, r3, h3, hf⟩ := sat_ca1 hf
    refine g_cSI (rest := [.int v2_5, .int 1000000]) B (ck_X2_extensions C h3) mo_X2_extensions wm_RX1_101 (by decide) rfl rfl (Nat.le_of_ble_eq_true rfl) dX1_costFrom_86 ?_
    refine g_iadd B dX1_costFrom_89 ?_
    refine g_mmin B wm_RX1_98 wms_min wmi wmc_min (by decide) (Nat.le_of_ble_eq_true rfl) dX1_costFrom_90 ?_
    have hf := sat_some hf
    exact g_iret B rfl rfl dX1_costFrom_93 hf)
  refine g_icmp_ge (tgt := 81) B dX1_costFrom_14 (by decide) (fun c2 => ?_) (fun c2 => ?_)
  · have hf := sat_t hf c2
    have hf := sat_some hf
    exact g_sub hf [3, 5] rfl
  · have hf := sat_f hf c2
    refine g_ldc B wk_RX1_84 dX1_costFrom_17 ?_
    refine g_istore B [(0, .ref (kAd K 3)), (1, .ref (kAd K k1a)), (2, .int p2), (3, .int p3), (4, .int ((p2 + 1))), (5, .int 1000000)] dX1_costFrom_19 (by decide) [1, 2, 3, 4, 5, 0] rfl ?_
    refine g_iconst (v := 0) B dX1_costFrom_21 (by decide) ?_
    refine g_istore B [(0, .ref (kAd K 3)), (1, .ref (kAd K k1a)), (2, .int p2), (3, .int p3), (4, .int ((p2 + 1))), (5, .int 1000000), (6, .int 0)] dX1_costFrom_22 (by decide) [1, 2, 3, 4, 5, 6, 0] rfl ?_
    refine g_sub (lv' := [(0, .ref (kAd K 3)), (1, .ref (kAd K k1a)), (3, .int p3), (4, .int ((p2 + 1))), (5, .int 1000000), (6, .int 0)]) ?_ [0, 1, 3, 4, 5, 6] rfl
    have hf := sat_cu1 (G := fun σ5 v5_5 => Gj K σ5 81 [(3, .int p3), (5, .int v5_5)] []) hf (by
      intro σ5 v5_5 hf
      have hf := sat_some hf
      exact g_sub hf [0, 1] rfl)
    refine lqr2 (Gh := fun σ4 v4_5 v4_6 => Gj K σ4 24 [(0, .ref (kAd K 3)), (1, .ref (kAd K k1a)), (3, .int p3), (4, .int ((p2 + 1))), (5, .int v4_5), (6, .int v4_6)] []) ?_ fu σ 1000000 0 hf
    intro σ4 v4_5 v4_6 hf
    unfold f_X1_costFrom_s24 at hf
    refine g_iload B dX1_costFrom_24 5 rfl ?_
    refine g_aload_n B dX1_costFrom_26 rfl 0 rfl ?_
    refine c_get_D_counts C wf_RX1_16 dX1_costFrom_27 ?_
    refine g_iload B dX1_costFrom_30 3 rfl ?_
    obtain ⟨h6, hf⟩ := sat_chk hf
    refine c_iald C h6 dX1_costFrom_32 ?_
    refine g_icmp_ge (tgt := 81) B dX1_costFrom_33 (by decide) (fun c7 => ?_) (fun c7 => ?_)
    · have hf := sat_t hf c7
      have hf := sum_r (sat_some hf)
      exact g_sub hf [2, 4] rfl
    · have hf := sat_f hf c7
      refine g_iload B dX1_costFrom_36 4 rfl ?_
      refine g_aload_n B dX1_costFrom_38 rfl 0 rfl ?_
      refine c_get_D_costs C wf_RX1_20 dX1_costFrom_39 ?_
      refine g_iload B dX1_costFrom_42 3 rfl ?_
      obtain ⟨h8, hf⟩ := sat_chk hf
      refine c_aald6 C h8 dX1_costFrom_44 ?_
      refine g_iload B dX1_costFrom_45 5 rfl ?_
      obtain ⟨h9, hf⟩ := sat_chk hf
      refine c_iald C h9 dX1_costFrom_47 ?_
      refine g_iload_n B dX1_costFrom_48 rfl 2 rfl ?_
      refine g_aload_n B dX1_costFrom_49 rfl 0 rfl ?_
      refine c_get_D_keys C wf_RX1_13 dX1_costFrom_50 ?_
      refine g_iload B dX1_costFrom_53 3 rfl ?_
      obtain ⟨h10, hf⟩ := sat_chk hf
      refine c_aald4 C h10 dX1_costFrom_55 ?_
      refine g_iload B dX1_costFrom_56 5 rfl ?_
      obtain ⟨h11, hf⟩ := sat_chk hf
      refine c_iald C h11 dX1_costFrom_58 ?_
      refine g_aload_n B dX1_costFrom_59 rfl 1 rfl ?_
      refine c_get_P_marks C (eq_of_beq h1) wf_RX1_91 dX1_costFrom_60 ?_
      refine g_iload B dX1_costFrom_63 3 rfl ?_
      obtain ⟨h12, hf⟩ := sat_chk hf
      refine c_iald C h12 dX1_costFrom_65 ?_
      obtain ⟨σ13, r13, h13, hf⟩ := sat_ca1 hf
      refine g_cSI (rest := [.int ((σ4 (19 + (p2 + 1).toNatClampNeg) v4_6.toNatClampNeg)), .int v4_5]) B (ck_X1_stepCost C h13) mo_X1_stepCost wm_RX1_94 (by decide) rfl rfl (Nat.le_of_ble_eq_true rfl) dX1_costFrom_66 ?_
      refine g_iadd B dX1_costFrom_69 ?_
      refine g_mmin B wm_RX1_98 wms_min wmi wmc_min (by decide) (Nat.le_of_ble_eq_true rfl) dX1_costFrom_70 ?_
      refine g_istore B [(0, .ref (kAd K 3)), (1, .ref (kAd K k1a)), (3, .int p3), (4, .int ((p2 + 1))), (5, .int ((if ((σ4 (19 + (p2 + 1).toNatClampNeg) v4_6.toNatClampNeg) + r13) < v4_5 then ((σ4 (19 + (p2 + 1).toNatClampNeg) v4_6.toNatClampNeg) + r13) else v4_5))), (6, .int v4_6)] dX1_costFrom_73 (by decide) [1, 2, 3, 4, 0, 5] rfl ?_
      refine g_iinc B (v4_6 + 1) [(0, .ref (kAd K 3)), (1, .ref (kAd K k1a)), (3, .int p3), (4, .int ((p2 + 1))), (5, .int ((if ((σ4 (19 + (p2 + 1).toNatClampNeg) v4_6.toNatClampNeg) + r13) < v4_5 then ((σ4 (19 + (p2 + 1).toNatClampNeg) v4_6.toNatClampNeg) + r13) else v4_5))), (6, .int ((v4_6 + 1)))] dX1_costFrom_75 5 rfl rfl (by decide) [1, 2, 3, 4, 5, 0] rfl ?_
      refine g_goto (tgt := 24) B dX1_costFrom_78 (by decide) ?_
      have hf := sum_l (sat_some hf)
      exact g_sub hf [0, 1, 2, 3, 4, 5] rfl
theorem c_X1_costFrom (l : Launch) (D : va_G) (Ad : Nat → Nat) (cI cP cII : ClassId) {σ : Mm} {k1a : Nat} {p2 : Int32} {p3 : Int32} {τ : Mm} {r : Int32} (h : f_X1_costFrom σ k1a p2 p3 = some (τ, r)) : CtI l D (tysC cI cP cII) (wdC Ad cI cP cII) StC yX1_costFrom cX1_costFrom 7 .int 3 σ [.ref (Ad 3), .ref (Ad k1a), .int p2, .int p3] (τ, r) := by
  refine metI (Ad := Ad) (cI := cI) (cP := cP) (cII := cII) (by decide) (Nat.le_of_ble_eq_true rfl) (wdG_ok _ _ _) stOK_C rfl (fun K C G hR => ?_)
  have e : kAd K = Ad := G.2.2.2.2.2.1
  have C2 := cC_of C G
  have h9 := w_X1_costFrom C2 σ k1a p2 p3 ⟨_, h, by rw [hR]; exact ⟨rfl, rfl⟩⟩
  rw [e] at h9
  exact h9
theorem ck_X1_costFrom {K : Kx} {cc : ByteArray} {own : String} {nL d : Nat} {rty : Option FieldType} (C : CxC K cc own nL d rty) {σ : Mm} {k1a : Nat} {p2 : Int32} {p3 : Int32} {τ : Mm} {r : Int32} (h : f_X1_costFrom σ k1a p2 p3 = some (τ, r)) : CtI (kl K) (kD K) (ktys K) (kwf K) (kSt K) yX1_costFrom cX1_costFrom 7 .int 3 σ [.ref (kAd K 3), .ref (kAd K k1a), .int p2, .int p3] (τ, r) := cC_eq C (P := fun l D tys wf St => CtI l D tys wf St yX1_costFrom cX1_costFrom 7 .int 3 σ [.ref (kAd K 3), .ref (kAd K k1a), .int p2, .int p3] (τ, r)) (c_X1_costFrom _ _ _ _ _ _ h)
def f_X1_leastFirst_s7 (σ1 : Mm) (v1_1 : Int32) (v1_2 : Int32) (v1_3 : Int32) : Option ((Mm × Int32 × Int32 × Int32) ⊕ (Mm × Int32)) :=
  chk (inC 5 0) ((if (σ1 5 (0 : Int32).toNatClampNeg) ≤ v1_3 then some (.inr (σ1, v1_2)) else chk (inb 0 12) (chk (inC (19 + (0 : Int32).toNatClampNeg) v1_3) ((if v1_1 ≤ (σ1 (19 + (0 : Int32).toNatClampNeg) v1_3.toNatClampNeg) then some (.inl (σ1, v1_1, v1_2, (v1_3 + 1))) else chk (inb 0 12) (chk (inC (19 + (0 : Int32).toNatClampNeg) v1_3) (some (.inl (σ1, (σ1 (19 + (0 : Int32).toNatClampNeg) v1_3.toNatClampNeg), v1_3, (v1_3 + 1))))))))))
def f_X1_leastFirst (σ : Mm) : Option (Mm × Int32) :=
  bn1 (lq3 f_X1_leastFirst_s7 fu σ 1000000 (-1) 0) (fun σ2 v2_2 => some (σ2, v2_2))
set_option maxHeartbeats 4000000 in
set_option maxRecDepth 100000 in
theorem w_X1_leastFirst {K : Kx} (C : CxC K cX1_leastFirst RX1 4 0 (some .int)) (σ : Mm) (hf : Sat (f_X1_leastFirst σ ) (fun o => kRt K (some (.int o.2)) o.1)) : Gj K σ 0 [(0, .ref (kAd K 3))] [] := by
  unfold f_X1_leastFirst at hf
  have B := C.1
  refine g_ldc B wk_RX1_84 dX1_leastFirst_0 ?_
  refine g_istore_n B [(0, .ref (kAd K 3)), (1, .int 1000000)] dX1_leastFirst_2 rfl (by decide) [1, 0] rfl ?_
  refine g_iconst (v := (-1)) B dX1_leastFirst_3 (by decide) ?_
  refine g_istore_n B [(0, .ref (kAd K 3)), (1, .int 1000000), (2, .int ((-1)))] dX1_leastFirst_4 rfl (by decide) [1, 2, 0] rfl ?_
  refine g_iconst (v := 0) B dX1_leastFirst_5 (by decide) ?_
  refine g_istore_n B [(0, .ref (kAd K 3)), (1, .int 1000000), (2, .int ((-1))), (3, .int 0)] dX1_leastFirst_6 rfl (by decide) [1, 2, 3, 0] rfl ?_
  have hf := sat_cu1 (G := fun σ2 v2_2 => Gj K σ2 46 [(2, .int v2_2)] []) hf (by
    intro σ2 v2_2 hf
    refine g_iload_n B dX1_leastFirst_46 rfl 0 rfl ?_
    have hf := sat_some hf
    exact g_iret B rfl rfl dX1_leastFirst_47 hf)
  refine lqr3 (Gh := fun σ1 v1_1 v1_2 v1_3 => Gj K σ1 7 [(0, .ref (kAd K 3)), (1, .int v1_1), (2, .int v1_2), (3, .int v1_3)] []) ?_ fu σ 1000000 (-1) 0 hf
  intro σ1 v1_1 v1_2 v1_3 hf
  unfold f_X1_leastFirst_s7 at hf
  refine g_iload_n B dX1_leastFirst_7 rfl 3 rfl ?_
  refine g_aload_n B dX1_leastFirst_8 rfl 0 rfl ?_
  refine c_get_D_counts C wf_RX1_16 dX1_leastFirst_9 ?_
  refine g_iconst (v := 0) B dX1_leastFirst_12 (by decide) ?_
  obtain ⟨h3, hf⟩ := sat_chk hf
  refine c_iald C h3 dX1_leastFirst_13 ?_
  refine g_icmp_ge (tgt := 46) B dX1_leastFirst_14 (by decide) (fun c4 => ?_) (fun c4 => ?_)
  · have hf := sat_t hf c4
    have hf := sum_r (sat_some hf)
    exact g_sub hf [2] rfl
  · have hf := sat_f hf c4
    refine g_aload_n B dX1_leastFirst_17 rfl 0 rfl ?_
    refine c_get_D_costs C wf_RX1_20 dX1_leastFirst_18 ?_
    refine g_iconst (v := 0) B dX1_leastFirst_21 (by decide) ?_
    obtain ⟨h5, hf⟩ := sat_chk hf
    refine c_aald6 C h5 dX1_leastFirst_22 ?_
    refine g_iload_n B dX1_leastFirst_23 rfl 3 rfl ?_
    obtain ⟨h6, hf⟩ := sat_chk hf
    refine c_iald C h6 dX1_leastFirst_24 ?_
    refine g_iload_n B dX1_leastFirst_25 rfl 1 rfl ?_
    refine g_icmp_ge (tgt := 40) B dX1_leastFirst_26 (by decide) (fun c7 => ?_) (fun c7 => ?_)
    · have hf := sat_t hf c7
      refine g_iinc B (v1_3 + 1) [(0, .ref (kAd K 3)), (1, .int v1_1), (2, .int v1_2), (3, .int ((v1_3 + 1)))] dX1_leastFirst_40 3 rfl rfl (by decide) [1, 2, 3, 0] rfl ?_
      refine g_goto (tgt := 7) B dX1_leastFirst_43 (by decide) ?_
      have hf := sum_l (sat_some hf)
      exact g_sub hf [0, 1, 2, 3] rfl
    · have hf := sat_f hf c7
      refine g_aload_n B dX1_leastFirst_29 rfl 0 rfl ?_
      refine c_get_D_costs C wf_RX1_20 dX1_leastFirst_30 ?_
      refine g_iconst (v := 0) B dX1_leastFirst_33 (by decide) ?_
      obtain ⟨h8, hf⟩ := sat_chk hf
      refine c_aald6 C h8 dX1_leastFirst_34 ?_
      refine g_iload_n B dX1_leastFirst_35 rfl 3 rfl ?_
      obtain ⟨h9, hf⟩ := sat_chk hf
      refine c_iald C h9 dX1_leastFirst_36 ?_
      refine g_istore_n B [(0, .ref (kAd K 3)), (1, .int ((σ1 (19 + (0 : Int32).toNatClampNeg) v1_3.toNatClampNeg))), (2, .int v1_2), (3, .int v1_3)] dX1_leastFirst_37 rfl (by decide) [1, 0, 2, 3] rfl ?_
      refine g_iload_n B dX1_leastFirst_38 rfl 3 rfl ?_
      refine g_istore_n B [(0, .ref (kAd K 3)), (1, .int ((σ1 (19 + (0 : Int32).toNatClampNeg) v1_3.toNatClampNeg))), (2, .int v1_3), (3, .int v1_3)] dX1_leastFirst_39 rfl (by decide) [1, 2, 0, 3] rfl ?_
      refine g_iinc B (v1_3 + 1) [(0, .ref (kAd K 3)), (1, .int ((σ1 (19 + (0 : Int32).toNatClampNeg) v1_3.toNatClampNeg))), (2, .int v1_3), (3, .int ((v1_3 + 1)))] dX1_leastFirst_40 3 rfl rfl (by decide) [1, 2, 3, 0] rfl ?_
      refine g_goto (tgt := 7) B dX1_leastFirst_43 (by decide) ?_
      have hf := sum_l (sat_some hf)
      exact g_sub hf [0, 1, 2, 3] rfl
theorem c_X1_leastFirst (l : Launch) (D : va_G) (Ad : Nat → Nat) (cI cP cII : ClassId) {σ : Mm} {τ : Mm} {r : Int32} (h : f_X1_leastFirst σ  = some (τ, r)) : CtI l D (tysC cI cP cII) (wdC Ad cI cP cII) StC yX1_leastFirst cX1_leastFirst 4 .int 0 σ [.ref (Ad 3)] (τ, r) := by
  refine metI (Ad := Ad) (cI := cI) (cP := cP) (cII := cII) (by decide) (Nat.le_of_ble_eq_true rfl) (wdG_ok _ _ _) stOK_C rfl (fun K C G hR => ?_)
  have e : kAd K = Ad := G.2.2.2.2.2.1
  have C2 := cC_of C G
  have h9 := w_X1_leastFirst C2 σ  ⟨_, h, by rw [hR]; exact ⟨rfl, rfl⟩⟩
  rw [e] at h9
  exact h9
theorem ck_X1_leastFirst {K : Kx} {cc : ByteArray} {own : String} {nL d : Nat} {rty : Option FieldType} (C : CxC K cc own nL d rty) {σ : Mm} {τ : Mm} {r : Int32} (h : f_X1_leastFirst σ  = some (τ, r)) : CtI (kl K) (kD K) (ktys K) (kwf K) (kSt K) yX1_leastFirst cX1_leastFirst 4 .int 0 σ [.ref (kAd K 3)] (τ, r) := cC_eq C (P := fun l D tys wf St => CtI l D tys wf St yX1_leastFirst cX1_leastFirst 4 .int 0 σ [.ref (kAd K 3)] (τ, r)) (c_X1_leastFirst _ _ _ _ _ _ h)
