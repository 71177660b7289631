def f_X1_keyAt (σ : Mm) (p1 : Int32) (p2 : Int32) : Option (Mm × Int32) :=
  chk (inb p1 12) (chk (inC (7 + p1.toNatClampNeg) p2) (some (σ, (σ (7 + p1.toNatClampNeg) p2.toNatClampNeg))))
set_option maxHeartbeats 4000000 in
set_option maxRecDepth 100000 in
theorem w_X1_keyAt {K : Kx} (C : CxC K cX1_keyAt RX1 3 0 (some .int)) (σ : Mm) (p1 : Int32) (p2 : Int32) (hf : Sat (f_X1_keyAt σ p1 p2) (fun o => kRt K (some (.int o.2)) o.1)) : Gj K σ 0 [(0, .ref (kAd K 3)), (1, .int p1), (2, .int p2)] [] := by
  unfold f_X1_keyAt at hf
  have B := C.1
  refine g_aload_n B dX1_keyAt_0 rfl 0 rfl ?_
  refine c_get_D_keys C wf_RX1_13 dX1_keyAt_1 ?_
  refine g_iload_n B dX1_keyAt_4 rfl 1 rfl ?_
  obtain ⟨h1, hf⟩ := sat_chk hf
  refine c_aald4 C h1 dX1_keyAt_5 ?_
  refine g_iload_n B dX1_keyAt_6 rfl 2 rfl ?_
  obtain ⟨h2, hf⟩ := sat_chk hf
  refine c_iald C h2 dX1_keyAt_7 ?_
  have hf := sat_some hf
  exact g_iret B rfl rfl dX1_keyAt_8 hf
theorem c_X1_keyAt (l : Launch) (D : va_G) (Ad : Nat → Nat) (cI cP cII : ClassId) {σ : Mm} {p1 : Int32} {p2 : Int32} {τ : Mm} {r : Int32} (h : f_X1_keyAt σ p1 p2 = some (τ, r)) : CtI l D (tysC cI cP cII) (wdC Ad cI cP cII) StC yX1_keyAt cX1_keyAt 3 .int 0 σ [.ref (Ad 3), .int p1, .int p2] (τ, r) := by
  refine metI (Ad := Ad) (cI := cI) (cP := cP) (cII := cII) (by decide) (Nat.le_of_ble_eq_true rfl) (wdG_ok _ _ _) stOK_C rfl (fun K C G hR => ?_)
  have e : kAd K = Ad := G.2.2.2.2.2.1
  have C2 := cC_of C G
  have h9 := w_X1_keyAt C2 σ p1 p2 ⟨_, h, by rw [hR]; exact ⟨rfl, rfl⟩⟩
  rw [e] at h9
  exact h9
theorem ck_X1_keyAt {K : Kx} {cc : ByteArray} {own : String} {nL d : Nat} {rty : Option FieldType} (C : CxC K cc own nL d rty) {σ : Mm} {p1 : Int32} {p2 : Int32} {τ : Mm} {r : Int32} (h : f_X1_keyAt σ p1 p2 = some (τ, r)) : CtI (kl K) (kD K) (ktys K) (kwf K) (kSt K) yX1_keyAt cX1_keyAt 3 .int 0 σ [.ref (kAd K 3), .int p1, .int p2] (τ, r) := cC_eq C (P := fun l D tys wf St => CtI l D tys wf St yX1_keyAt cX1_keyAt 3 .int 0 σ [.ref (kAd K 3), .int p1, .int p2] (τ, r)) (c_X1_keyAt _ _ _ _ _ _ h)
def f_X2_name (σ : Mm) (p0 : Int32) : Option (Mm × Int32) :=
  some (σ, (p0 / 10))
set_option maxHeartbeats 4000000 in
set_option maxRecDepth 100000 in
theorem w_X2_name {K : Kx} (C : CxC K cX2_name RX2 1 0 (some .int)) (σ : Mm) (p0 : Int32) (hf : Sat (f_X2_name σ p0) (fun o => kRt K (some (.int o.2)) o.1)) : Gj K σ 0 [(0, .int p0)] [] := by
  unfold f_X2_name at hf
  have B := C.1
  refine g_iload_n B dX2_name_0 rfl 0 rfl ?_
  refine g_bipush (v := 10) B dX2_name_1 (by decide) ?_
  refine g_idiv B (by decide) dX2_name_3 ?_
  have hf := sat_some hf
  exact g_iret B rfl rfl dX2_name_4 hf
theorem c_X2_name (l : Launch) (D : va_G) (Ad : Nat → Nat) (cI cP cII : ClassId) {σ : Mm} {p0 : Int32} {τ : Mm} {r : Int32} (h : f_X2_name σ p0 = some (τ, r)) : CtI l D (tysC cI cP cII) (wdC Ad cI cP cII) StC yX2_name cX2_name 1 .int 0 σ [.int p0] (τ, r) := by
  refine metI (Ad := Ad) (cI := cI) (cP := cP) (cII := cII) (by decide) (Nat.le_of_ble_eq_true rfl) (wdG_ok _ _ _) stOK_C rfl (fun K C G hR => ?_)
  exact w_X2_name (cC_of C G) σ p0 ⟨_, h, by rw [hR]; exact ⟨rfl, rfl⟩⟩
theorem ck_X2_name {K : Kx} {cc : ByteArray} {own : String} {nL d : Nat} {rty : Option FieldType} (C : CxC K cc own nL d rty) {σ : Mm} {p0 : Int32} {τ : Mm} {r : Int32} (h : f_X2_name σ p0 = some (τ, r)) : CtI (kl K) (kD K) (ktys K) (kwf K) (kSt K) yX2_name cX2_name 1 .int 0 σ [.int p0] (τ, r) := cC_eq C (P := fun l D tys wf St => CtI l D tys wf St yX2_name cX2_name 1 .int 0 σ [.int p0] (τ, r)) (c_X2_name _ _ _ _ _ _ h)
def f_X5_hold (σ : Mm) (p1 : Int32) (p2 : Int32) (p3 : Int32) : Option (Mm × Int32) :=
  bn1 (f_X5_partWith σ p1 p2) (fun σ1 r1 => onul r1 (some (σ1, (-1))) (fun k1 => bn1 (f_X1_listHolds σ1 1 k1 p2) (fun σ2 r2 => bn1 (f_X5_isOutside σ2 p3 0 (r2 - 1)) (fun σ3 r3 => (if r3 = 0 then bn1 (f_X1_keyAt σ3 p2 p3) (fun σ5 r5 => bn1 (f_X2_name σ5 r5) (fun σ6 r6 => some (σ6, r6))) else some (σ3, (-3)))))))
set_option maxHeartbeats 4000000 in
set_option maxRecDepth 100000 in
theorem w_X5_hold {K : Kx} (C : CxC K cX5_hold RX5 6 4 (some .int)) (σ : Mm) (p1 : Int32) (p2 : Int32) (p3 : Int32) (hf : Sat (f_X5_hold σ p1 p2 p3) (fun o => kRt K (some (.int o.2)) o.1)) : Gj K σ 0 [(0, .ref (kAd K 0)), (1, .int p1), (2, .int p2), (3, .int p3)] [] := by
  unfold f_X5_hold at hf
  have B := C.1
  refine g_aload_n B dX5_hold_0 rfl 0 rfl ?_
  refine g_iload_n B dX5_hold_1 rfl 1 rfl ?_
  refine g_iload_n B dX5_hold_2 rfl 2 rfl ?_
  obtain ⟨σ1, r1, h1, hf⟩ := sat_ca1 hf
  refine g_cVA (rest := []) B (ck_X5_partWith C h1) mo_X5_partWith wm_RX5_51 (by decide) (cC_o3 C) rfl rfl rfl (Nat.le_of_ble_eq_true rfl) dX5_hold_3 ?_
  cases r1 with
  | none =>
    have hf := sat_on0 hf
    show Gj K σ1 6 [(0, .ref (kAd K 0)), (1, .int p1), (2, .int p2), (3, .int p3)] [.null]
    refine g_astoreN B [(0, .ref (kAd K 0)), (1, .int p1), (2, .int p2), (3, .int p3), (4, .null)] dX5_hold_6 (by decide) [1, 2, 3, 4, 0] rfl ?_
    refine g_aloadN B dX5_hold_8 4 rfl ?_
    refine g_ifnonnullN B dX5_hold_10 ?_
    refine g_iconst (v := (-1)) B dX5_hold_13 (by decide) ?_
    have hf := sat_some hf
    exact g_iret B rfl rfl dX5_hold_14 hf
  | some k1 =>
    have hf := sat_on1 hf
    show Gj K σ1 6 [(0, .ref (kAd K 0)), (1, .int p1), (2, .int p2), (3, .int p3)] [.ref (kAd K k1)]
    refine g_astore B [(0, .ref (kAd K 0)), (1, .int p1), (2, .int p2), (3, .int p3), (4, .ref (kAd K k1))] dX5_hold_6 (by decide) [1, 2, 3, 4, 0] rfl ?_
    refine g_aload B dX5_hold_8 4 rfl ?_
    refine g_ifnonnull (tgt := 15) B dX5_hold_10 (by decide) ?_
    refine g_aload_n B dX5_hold_15 rfl 0 rfl ?_
    refine c_get_F_desk C wf_RX5_23 dX5_hold_16 ?_
    refine g_aload_n B dX5_hold_19 rfl 0 rfl ?_
    refine c_get_F_open C wf_RX5_7 dX5_hold_20 ?_
    refine g_aload B dX5_hold_23 4 rfl ?_
    refine g_iload_n B dX5_hold_25 rfl 2 rfl ?_
    obtain ⟨σ2, r2, h2, hf⟩ := sat_ca1 hf
    refine g_cVI (rest := []) B (ck_X1_listHolds C h2) mo_X1_listHolds wm_RX5_74 (by decide) (cC_o1 C) rfl rfl rfl (Nat.le_of_ble_eq_true rfl) dX5_hold_26 ?_
    refine g_istore B [(0, .ref (kAd K 0)), (1, .int p1), (2, .int p2), (3, .int p3), (4, .ref (kAd K k1)), (5, .int r2)] dX5_hold_29 (by decide) [1, 2, 3, 4, 5, 0] rfl ?_
    refine g_iload_n B dX5_hold_31 rfl 3 rfl ?_
    refine g_iconst (v := 0) B dX5_hold_32 (by decide) ?_
    refine g_iload B dX5_hold_33 5 rfl ?_
    refine g_iconst (v := 1) B dX5_hold_35 (by decide) ?_
    refine g_isub B dX5_hold_36 ?_
    obtain ⟨σ3, r3, h3, hf⟩ := sat_ca1 hf
    refine g_cSI (rest := []) B (ck_X5_isOutside C h3) mo_X5_isOutside wm_RX5_27 (by decide) rfl rfl (Nat.le_of_ble_eq_true rfl) dX5_hold_37 ?_
    refine g_if_eq (tgt := 48) B dX5_hold_40 (by decide) (fun c4 => ?_) (fun c4 => ?_)
    · have hf := sat_t hf c4
      refine g_aload_n B dX5_hold_48 rfl 0 rfl ?_
      refine c_get_F_desk C wf_RX5_23 dX5_hold_49 ?_
      refine g_iload_n B dX5_hold_52 rfl 2 rfl ?_
      refine g_iload_n B dX5_hold_53 rfl 3 rfl ?_
      obtain ⟨σ5, r5, h5, hf⟩ := sat_ca1 hf
      refine g_cVI (rest := []) B (ck_X1_keyAt C h5) mo_X1_keyAt wm_RX5_78 (by decide) (cC_o1 C) rfl rfl rfl (Nat.le_of_ble_eq_true rfl) dX5_hold_54 ?_
      obtain ⟨σ6, r6, h6, hf⟩ := sat_ca1 hf
      refine g_cSI (rest := []) B (ck_X2_name C h6) mo_X2_name wm_RX5_82 (by decide) rfl rfl (Nat.le_of_ble_eq_true rfl) dX5_hold_57 ?_
      have hf := sat_some hf
      exact g_iret B rfl rfl dX5_hold_60 hf
    · have hf := sat_f hf c4
      refine g_bipush (v := (-3)) B dX5_hold_43 (by decide) ?_
      refine g_goto (tgt := 60) B dX5_hold_45 (by decide) ?_
      have hf := sat_some hf
      exact g_iret B rfl rfl dX5_hold_60 hf
theorem c_X5_hold (l : Launch) (D : va_G) (Ad : Nat → Nat) (cI cP cII : ClassId) {σ : Mm} {p1 : Int32} {p2 : Int32} {p3 : Int32} {τ : Mm} {r : Int32} (h : f_X5_hold σ p1 p2 p3 = some (τ, r)) : CtI l D (tysC cI cP cII) (wdC Ad cI cP cII) StC yX5_hold cX5_hold 6 .int 4 σ [.ref (Ad 0), .int p1, .int p2, .int p3] (τ, r) := by
  refine metI (Ad := Ad) (cI := cI) (cP := cP) (cII := cII) (by decide) (Nat.le_of_ble_eq_true rfl) (wdG_ok _ _ _) stOK_C rfl (fun K C G hR => ?_)
  have e : kAd K = Ad := G.2.2.2.2.2.1
  have C2 := cC_of C G
  have h9 := w_X5_hold C2 σ p1 p2 p3 ⟨_, h, by rw [hR]; exact ⟨rfl, rfl⟩⟩
  rw [e] at h9
  exact h9
theorem ck_X5_hold {K : Kx} {cc : ByteArray} {own : String} {nL d : Nat} {rty : Option FieldType} (C : CxC K cc own nL d rty) {σ : Mm} {p1 : Int32} {p2 : Int32} {p3 : Int32} {τ : Mm} {r : Int32} (h : f_X5_hold σ p1 p2 p3 = some (τ, r)) : CtI (kl K) (kD K) (ktys K) (kwf K) (kSt K) yX5_hold cX5_hold 6 .int 4 σ [.ref (kAd K 0), .int p1, .int p2, .int p3] (τ, r) := cC_eq C (P := fun l D tys wf St => CtI l D tys wf St yX5_hold cX5_hold 6 .int 4 σ [.ref (kAd K 0), .int p1, .int p2, .int p3] (τ, r)) (c_X5_hold _ _ _ _ _ _ h)
def f_X2_hand (σ : Mm) (p0 : Int32) : Option (Mm × Int32) :=
  some (σ, ((p0 / 100) - (p0 / 100) / 100 * 100))
set_option maxHeartbeats 4000000 in
set_option maxRecDepth 100000 in
theorem w_X2_hand {K : Kx} (C : CxC K cX2_hand RX2 1 0 (some .int)) (σ : Mm) (p0 : Int32) (hf : Sat (f_X2_hand σ p0) (fun o => kRt K (some (.int o.2)) o.1)) : Gj K σ 0 [(0, .int p0)] [] := by
  unfold f_X2_hand at hf
  have B := C.1
  refine g_iload_n B dX2_hand_0 rfl 0 rfl ?_
  refine g_bipush (v := 100) B dX2_hand_1 (by decide) ?_
  refine g_idiv B (by decide) dX2_hand_3 ?_
  refine g_bipush (v := 100) B dX2_hand_4 (by decide) ?_
  refine g_irem B (by decide) dX2_hand_6 ?_
  have hf := sat_some hf
  exact g_iret B rfl rfl dX2_hand_7 hf
theorem c_X2_hand (l : Launch) (D : va_G) (Ad : Nat → Nat) (cI cP cII : ClassId) {σ : Mm} {p0 : Int32} {τ : Mm} {r : Int32} (h : f_X2_hand σ p0 = some (τ, r)) : CtI l D (tysC cI cP cII) (wdC Ad cI cP cII) StC yX2_hand cX2_hand 1 .int 0 σ [.int p0] (τ, r) := by
  refine metI (Ad := Ad) (cI := cI) (cP := cP) (cII := cII) (by decide) (Nat.le_of_ble_eq_true rfl) (wdG_ok _ _ _) stOK_C rfl (fun K C G hR => ?_)
  exact w_X2_hand (cC_of C G) σ p0 ⟨_, h, by rw [hR]; exact ⟨rfl, rfl⟩⟩
theorem ck_X2_hand {K : Kx} {cc : ByteArray} {own : String} {nL d : Nat} {rty : Option FieldType} (C : CxC K cc own nL d rty) {σ : Mm} {p0 : Int32} {τ : Mm} {r : Int32} (h : f_X2_hand σ p0 = some (τ, r)) : CtI (kl K) (kD K) (ktys K) (kwf K) (kSt K) yX2_hand cX2_hand 1 .int 0 σ [.int p0] (τ, r) := cC_eq C (P := fun l D tys wf St => CtI l D tys wf St yX2_hand cX2_hand 1 .int 0 σ [.int p0] (τ, r)) (c_X2_hand _ _ _ _ _ _ h)
def f_X2_isShift (σ : Mm) (p0 : Int32) (p1 : Int32) : Option (Mm × Int32) :=
  bn1 (f_X2_hand σ p0) (fun σ1 r1 => (if r1 = 0 then some (σ1, 0) else bn1 (f_X2_hand σ1 p1) (fun σ3 r3 => (if r3 = 0 then some (σ3, 0) else bn1 (f_X2_hand σ3 p0) (fun σ5 r5 => bn1 (f_X2_hand σ5 p1) (fun σ6 r6 => (if r5 = r6 then some (σ6, 0) else some (σ6, 1))))))))
set_option maxHeartbeats 4000000 in
set_option maxRecDepth 100000 in
theorem w_X2_isShift {K : Kx} (C : CxC K cX2_isShift RX2 2 1 (some .boolean)) (σ : Mm) (p0 : Int32) (p1 : Int32) (hf : Sat (f_X2_isShift σ p0 p1) (fun o => kRt K (some (.int o.2)) o.1)) : Gj K σ 0 [(0, .int p0), (1, .int p1)] [] := by
  unfold f_X2_isShift at hf
  have B := C.1
  refine g_iload_n B dX2_isShift_0 rfl 0 rfl ?_
  obtain ⟨σ1, r1, h1, hf⟩ := sat_ca1 hf
  refine g_cSI (rest := []) B (ck_X2_hand C h1) mo_X2_hand wm_RX2_21 (by decide) rfl rfl (Nat.le_of_ble_eq_true rfl) dX2_isShift_1 ?_
  refine g_if_eq (tgt := 29) B dX2_isShift_4 (by decide) (fun c2 => ?_) (fun c2 => ?_)
  · have hf := sat_t hf c2
    refine g_iconst (v := 0) B dX2_isShift_29 (by decide) ?_
    have hf := sat_some hf
    exact g_iret B rfl rfl dX2_isShift_30 hf
  · have hf := sat_f hf c2
    refine g_iload_n B dX2_isShift_7 rfl 1 rfl ?_
    obtain ⟨σ3, r3, h3, hf⟩ := sat_ca1 hf
    refine g_cSI (rest := []) B (ck_X2_hand C h3) mo_X2_hand wm_RX2_21 (by decide) rfl rfl (Nat.le_of_ble_eq_true rfl) dX2_isShift_8 ?_
    refine g_if_eq (tgt := 29) B dX2_isShift_11 (by decide) (fun c4 => ?_) (fun c4 => ?_)
    · have hf := sat_t hf c4
      refine g_iconst (v := 0) B dX2_isShift_29 (by decide) ?_
      have hf := sat_some hf
      exact g_iret B rfl rfl dX2_isShift_30 hf
    · have hf := sat_f hf c4
      refine g_iload_n B dX2_isShift_14 rfl 0 rfl ?_
      obtain ⟨σ5, r5, h5, hf⟩ := sat_ca1 hf
      refine g_cSI (rest := []) B (ck_X2_hand C h5) mo_X2_hand wm_RX2_21 (by decide) rfl rfl (Nat.le_of_ble_eq_true rfl) dX2_isShift_15 ?_
      refine g_iload_n B dX2_isShift_18 rfl 1 rfl ?_
      obtain ⟨σ6, r6, h6, hf⟩ := sat_ca1 hf
      refine g_cSI (rest := [.int r5]) B (ck_X2_hand C h6) mo_X2_hand wm_RX2_21 (by decide) rfl rfl (Nat.le_of_ble_eq_true rfl) dX2_isShift_19 ?_
      refine g_icmp_eq (tgt := 29) B dX2_isShift_22 (by decide) (fun c7 => ?_) (fun c7 => ?_)
      · have hf := sat_t hf c7
        refine g_iconst (v := 0) B dX2_isShift_29 (by decide) ?_
        have hf := sat_some hf
        exact g_iret B rfl rfl dX2_isShift_30 hf
      · have hf := sat_f hf c7
        refine g_iconst (v := 1) B dX2_isShift_25 (by decide) ?_
        refine g_goto (tgt := 30) B dX2_isShift_26 (by decide) ?_
        have hf := sat_some hf
        exact g_iret B rfl rfl dX2_isShift_30 hf
theorem c_X2_isShift (l : Launch) (D : va_G) (Ad : Nat → Nat) (cI cP cII : ClassId) {σ : Mm} {p0 : Int32} {p1 : Int32} {τ : Mm} {r : Int32} (h : f_X2_isShift σ p0 p1 = some (τ, r)) : CtI l D (tysC cI cP cII) (wdC Ad cI cP cII) StC yX2_isShift cX2_isShift 2 .boolean 1 σ [.int p0, .int p1] (τ, r) := by
  refine metI (Ad := Ad) (cI := cI) (cP := cP) (cII := cII) (by decide) (Nat.le_of_ble_eq_true rfl) (wdG_ok _ _ _) stOK_C rfl (fun K C G hR => ?_)
  exact w_X2_isShift (cC_of C G) σ p0 p1 ⟨_, h, by rw [hR]; exact ⟨rfl, rfl⟩⟩
theorem ck_X2_isShift {K : Kx} {cc : ByteArray} {own : String} {nL d : Nat} {rty : Option FieldType} (C : CxC K cc own nL d rty) {σ : Mm} {p0 : Int32} {p1 : Int32} {τ : Mm} {r : Int32} (h : f_X2_isShift σ p0 p1 = some (τ, r)) : CtI (kl K) (kD K) (ktys K) (kwf K) (kSt K) yX2_isShift cX2_isShift 2 .boolean 1 σ [.int p0, .int p1] (τ, r) := cC_eq C (P := fun l D tys wf St => CtI l D tys wf St yX2_isShift cX2_isShift 2 .boolean 1 σ [.int p0, .int p1] (τ, r)) (c_X2_isShift _ _ _ _ _ _ h)
def f_X2_string (σ : Mm) (p0 : Int32) : Option (Mm × Int32) :=
  some (σ, (p0 / 10000))
set_option maxHeartbeats 4000000 in
set_option maxRecDepth 100000 in
theorem w_X2_string {K : Kx} (C : CxC K cX2_string RX2 1 0 (some .int)) (σ : Mm) (p0 : Int32) (hf : Sat (f_X2_string σ p0) (fun o => kRt K (some (.int o.2)) o.1)) : Gj K σ 0 [(0, .int p0)] [] := by
  unfold f_X2_string at hf
  have B := C.1
  refine g_iload_n B dX2_string_0 rfl 0 rfl ?_
  refine g_sipush (v := 10000) B dX2_string_1 (by decide) ?_
  refine g_idiv B (by decide) dX2_string_4 ?_
  have hf := sat_some hf
  exact g_iret B rfl rfl dX2_string_5 hf
theorem c_X2_string (l : Launch) (D : va_G) (Ad : Nat → Nat) (cI cP cII : ClassId) {σ : Mm} {p0 : Int32} {τ : Mm} {r : Int32} (h : f_X2_string σ p0 = some (τ, r)) : CtI l D (tysC cI cP cII) (wdC Ad cI cP cII) StC yX2_string cX2_string 1 .int 0 σ [.int p0] (τ, r) := by
  refine metI (Ad := Ad) (cI := cI) (cP := cP) (cII := cII) (by decide) (Nat.le_of_ble_eq_true rfl) (wdG_ok _ _ _) stOK_C rfl (fun K C G hR => ?_)
  exact w_X2_string (cC_of C G) σ p0 ⟨_, h, by rw [hR]; exact ⟨rfl, rfl⟩⟩
theorem ck_X2_string {K : Kx} {cc : ByteArray} {own : String} {nL d : Nat} {rty : Option FieldType} (C : CxC K cc own nL d rty) {σ : Mm} {p0 : Int32} {τ : Mm} {r : Int32} (h : f_X2_string σ p0 = some (τ, r)) : CtI (kl K) (kD K) (ktys K) (kwf K) (kSt K) yX2_string cX2_string 1 .int 0 σ [.int p0] (τ, r) := cC_eq C (P := fun l D tys wf St => CtI l D tys wf St yX2_string cX2_string 1 .int 0 σ [.int p0] (τ, r)) (c_X2_string _ _ _ _ _ _ h)
def f_X1_stepCost (σ : Mm) (p0 : Int32) (p1 : Int32) (p2 : Int32) : Option (Mm × Int32) :=
  bn1 (f_X2_string σ p1) (fun σ1 r1 => bn1 (f_X2_string σ1 p0) (fun σ2 r2 => bn1 (f_X2_isShift σ2 p0 p1) (fun σ3 r3 => (if r3 = 0 then some (σ3, (if 0 ≤ (r1 - r2) then (r1 - r2) else 0 - (r1 - r2))) else (if (p2 &&& 9) = 0 then (if (p2 &&& 2) = 0 then bn1 (f_X2_hand σ3 p1) (fun σ7 r7 => bn1 (f_X2_hand σ7 p0) (fun σ8 r8 => some (σ8, ((if 0 ≤ (r1 - r2) then (r1 - r2) else 0 - (r1 - r2)) + (2 * (if 0 ≤ (r7 - r8) then (r7 - r8) else 0 - (r7 - r8))))))) else some (σ3, 1000000)) else some (σ3, (if 0 ≤ (r1 - r2) then (r1 - r2) else 0 - (r1 - r2))))))))
set_option maxHeartbeats 4000000 in
set_option maxRecDepth 100000 in
theorem w_X1_stepCost {K : Kx} (C : CxC K cX1_stepCost RX1 4 2 (some .int)) (σ : Mm) (p0 : Int32) (p1 : Int32) (p2 : Int32) (hf : Sat (f_X1_stepCost σ p0 p1 p2) (fun o => kRt K (some (.int o.2)) o.1)) : Gj K σ 0 [(0, .int p0), (1, .int p1), (2, .int p2)] [] := by
  unfold f_X1_stepCost at hf
  have B := C.1
  refine g_iload_n B dX1_stepCost_0 rfl 1 rfl ?_
  obtain ⟨σ1, r1, h1, hf⟩ := sat_ca1 hf
  refine g_cSI (rest := []) B (ck_X2_string C h1) mo_X2_string wm_RX1_107 (by decide) rfl rfl (Nat.le_of_ble_eq_true rfl) dX1_stepCost_1 ?_
  refine g_iload_n B dX1_stepCost_4 rfl 0 rfl ?_
  obtain ⟨σ2, r2, h2, hf⟩ := sat_ca1 hf
  refine g_cSI (rest := [.int r1]) B (ck_X2_string C h2) mo_X2_string wm_RX1_107 (by decide) rfl rfl (Nat.le_of_ble_eq_true rfl) dX1_stepCost_5 ?_
  refine g_isub B dX1_stepCost_8 ?_
  refine g_mabs B wm_RX1_110 wms_abs wmi wmc_abs (by decide) (Nat.le_of_ble_eq_true rfl) dX1_stepCost_9 ?_
  refine g_istore_n B [(0, .int p0), (1, .int p1), (2, .int p2), (3, .int ((if 0 ≤ (r1 - r2) then (r1 - r2) else 0 - (r1 - r2))))] dX1_stepCost_12 rfl (by decide) [1, 2, 3, 0] rfl ?_
  refine g_iload_n B dX1_stepCost_13 rfl 0 rfl ?_
  refine g_iload_n B dX1_stepCost_14 rfl 1 rfl ?_
  obtain ⟨σ3, r3, h3, hf⟩ := sat_ca1 hf
  refine g_cSI (rest := []) B (ck_X2_isShift C h3) mo_X2_isShift wm_RX1_113 (by decide) rfl rfl (Nat.le_of_ble_eq_true rfl) dX1_stepCost_15 ?_
  refine g_if_eq (tgt := 28) B dX1_stepCost_18 (by decide) (fun c4 => ?_) (fun c4 => ?_)
  · have hf := sat_t hf c4
    refine g_iload_n B dX1_stepCost_28 rfl 3 rfl ?_
    have hf := sat_some hf
    exact g_iret B rfl rfl dX1_stepCost_29 hf
  · have hf := sat_f hf c4
    refine g_iload_n B dX1_stepCost_21 rfl 2 rfl ?_
    refine g_bipush (v := 9) B dX1_stepCost_22 (by decide) ?_
    refine g_iand B dX1_stepCost_24 ?_
    refine g_if_eq (tgt := 30) B dX1_stepCost_25 (by decide) (fun c5 => ?_) (fun c5 => ?_)
    · have hf := sat_t hf c5
      refine g_iload_n B dX1_stepCost_30 rfl 2 rfl ?_
      refine g_iconst (v := 2) B dX1_stepCost_31 (by decide) ?_
      refine g_iand B dX1_stepCost_32 ?_
      refine g_if_eq (tgt := 39) B dX1_stepCost_33 (by decide) (fun c6 => ?_) (fun c6 => ?_)
      · have hf := sat_t hf c6
        refine g_iload_n B dX1_stepCost_39 rfl 3 rfl ?_
        refine g_iconst (v := 2) B dX1_stepCost_40 (by decide) ?_
        refine g_iload_n B dX1_stepCost_41 rfl 1 rfl ?_
        obtain ⟨σ7, r7, h7, hf⟩ := sat_ca1 hf
        refine g_cSI (rest := [.int 2, .int ((if 0 ≤ (r1 - r2) then (r1 - r2) else 0 - (r1 - r2)))]) B (ck_X2_hand C h7) mo_X2_hand wm_RX1_117 (by decide) rfl rfl (Nat.le_of_ble_eq_true rfl) dX1_stepCost_42 ?_
        refine g_iload_n B dX1_stepCost_45 rfl 0 rfl ?_
        obtain ⟨σ8, r8, h8, hf⟩ := sat_ca1 hf
        refine g_cSI (rest := [.int r7, .int 2, .int ((if 0 ≤ (r1 - r2) then (r1 - r2) else 0 - (r1 - r2)))]) B (ck_X2_hand C h8) mo_X2_hand wm_RX1_117 (by decide) rfl rfl (Nat.le_of_ble_eq_true rfl) dX1_stepCost_46 ?_
        refine g_isub B dX1_stepCost_49 ?_
        refine g_mabs B wm_RX1_110 wms_abs wmi wmc_abs (by decide) (Nat.le_of_ble_eq_true rfl) dX1_stepCost_50 ?_
        refine g_imul B dX1_stepCost_53 ?_
        refine g_iadd B dX1_stepCost_54 ?_
        have hf := sat_some hf
        exact g_iret B rfl rfl dX1_stepCost_55 hf
      · have hf := sat_f hf c6
        refine g_ldc B wk_RX1_88 dX1_stepCost_36 ?_
        have hf := sat_some hf
        exact g_iret B rfl rfl dX1_stepCost_38 hf
    · have hf := sat_f hf c5
      refine g_iload_n B dX1_stepCost_28 rfl 3 rfl ?_
      have hf := sat_some hf
      exact g_iret B rfl rfl dX1_stepCost_29 hf
theorem c_X1_stepCost (l : Launch) (D : va_G) (Ad : Nat → Nat) (cI cP cII : ClassId) {σ : Mm} {p0 : Int32} {p1 : Int32} {p2 : Int32} {τ : Mm} {r : Int32} (h : f_X1_stepCost σ p0 p1 p2 = some (τ, r)) : CtI l D (tysC cI cP cII) (wdC Ad cI cP cII) StC yX1_stepCost cX1_stepCost 4 .int 2 σ [.int p0, .int p1, .int p2] (τ, r) := by
  refine metI (Ad := Ad) (cI := cI) (cP := cP) (cII := cII) (by decide) (Nat.le_of_ble_eq_true rfl) (wdG_ok _ _ _) stOK_C rfl (fun K C G hR => ?_)
  exact w_X1_stepCost (cC_of C G) σ p0 p1 p2 ⟨_, h, by rw [hR]; exact ⟨rfl, rfl⟩⟩
theorem ck_X1_stepCost {K : Kx} {cc : ByteArray} {own : String} {nL d : Nat} {rty : Option FieldType} (C : CxC K cc own nL d rty) {σ : Mm} {p0 : Int32} {p1 : Int32} {p2 : Int32} {τ : Mm} {r : Int32} (h : f_X1_stepCost σ p0 p1 p2 = some (τ, r)) : CtI (kl K) (kD K) (ktys K) (kwf K) (kSt K) yX1_stepCost cX1_stepCost 4 .int 2 σ [.int p0, .int p1, .int p2] (τ, r) := cC_eq C (P := fun l D tys wf St => CtI l D tys wf St yX1_stepCost cX1_stepCost 4 .int 2 σ [.int p0, .int p1, .int p2] (τ, r)) (c_X1_stepCost _ _ _ _ _ _ h)
def f_X1_costFrom (σ : Mm) (k1a : Nat) (p2 : Int32) (p3 : Int32) (p4 : Int32) : Option (Mm × Int32) :=
  chk (inb p2 12) (chk (inC (19 + p2.toNatClampNeg) p4) (chk (inb p2 12) (chk (inC (7 + p2.toNatClampNeg) p4) (chk (kdC k1a == 2) (chk (inC (k1a + 5) p2) (bn1 (f_X1_stepCost σ p3 (σ (7 + p2.toNatClampNeg) p4.toNatClampNeg) (σ (k1a + 5) p2.toNatClampNeg)) (fun σ7 r7 => some (σ7, ((σ (19 + p2.toNatClampNeg) p4.toNatClampNeg) + r7)))))))))
set_option maxHeartbeats 4000000 in
set_option maxRecDepth 100000 in
theorem w_X1_costFrom {K : Kx} (C : CxC K cX1_costFrom RX1 5 3 (some .int)) (σ : Mm) (k1a : Nat) (p2 : Int32) (p3 : Int32) (p4 : Int32) (hf : Sat (f_X1_costFrom σ k1a p2 p3 p4) (fun o => kRt K (some (.int o.2)) o.1)) : Gj K σ 0 [(0, .ref (kAd K 3)), (1, .ref (kAd K k1a)), (2, .int p2), (3, .int p3), (4, .int p4)] [] := by
  unfold f_X1_costFrom at hf
  have B := C.1
  refine g_aload_n B dX1_costFrom_0 rfl 0 rfl ?_
  refine c_get_D_costs C wf_RX1_20 dX1_costFrom_1 ?_
  refine g_iload_n B dX1_costFrom_4 rfl 2 rfl ?_
  obtain ⟨h1, hf⟩ := sat_chk hf
  refine c_aald6 C h1 dX1_costFrom_5 ?_
  refine g_iload B dX1_costFrom_6 4 rfl ?_
  obtain ⟨h2, hf⟩ := sat_chk hf
  refine c_iald C h2 dX1_costFrom_8 ?_
  refine g_iload_n B dX1_costFrom_9 rfl 3 rfl ?_
  refine g_aload_n B dX1_costFrom_10 rfl 0 rfl ?_
  refine c_get_D_keys C wf_RX1_13 dX1_costFrom_11 ?_
  refine g_iload_n B dX1_costFrom_14 rfl 2 rfl ?_
  obtain ⟨h3, hf⟩ := sat_chk hf
  refine c_aald4 C h3 dX1_costFrom_15 ?_
  refine g_iload B dX1_costFrom_16 4 rfl ?_
  obtain ⟨h4, hf⟩ := sat_chk hf
  refine c_iald C h4 dX1_costFrom_18 ?_
  refine g_aload_n B dX1_costFrom_19 rfl 1 rfl ?_
  obtain ⟨h5, hf⟩ := sat_chk hf
  refine c_get_P_marks C (eq_of_beq h5) wf_RX1_100 dX1_costFrom_20 ?_
  refine g_iload_n B dX1_costFrom_23 rfl 2 rfl ?_
  obtain ⟨h6, hf⟩ := sat_chk hf
  refine c_iald C h6 dX1_costFrom_24 ?_
  obtain ⟨σ7, r7, h7, hf⟩ := sat_ca1 hf
  refine g_cSI (rest := [.int ((σ (19 + p2.toNatClampNeg) p4.toNatClampNeg))]) B (ck_X1_stepCost C h7) mo_X1_stepCost wm_RX1_103 (by decide) rfl rfl (Nat.le_of_ble_eq_true rfl) dX1_costFrom_25 ?_
  refine g_iadd B dX1_costFrom_28 ?_
  have hf := sat_some hf
  exact g_iret B rfl rfl dX1_costFrom_29 hf
theorem c_X1_costFrom (l : Launch) (D : va_G) (Ad : Nat → Nat) (cI cP cII : ClassId) {σ : Mm} {k1a : Nat} {p2 : Int32} {p3 : Int32} {p4 : Int32} {τ : Mm} {r : Int32} (h : f_X1_costFrom σ k1a p2 p3 p4 = some (τ, r)) : CtI l D (tysC cI cP cII) (wdC Ad cI cP cII) StC yX1_costFrom cX1_costFrom 5 .int 3 σ [.ref (Ad 3), .ref (Ad k1a), .int p2, .int p3, .int p4] (τ, r) := by
  refine metI (Ad := Ad) (cI := cI) (cP := cP) (cII := cII) (by decide) (Nat.le_of_ble_eq_true rfl) (wdG_ok _ _ _) stOK_C rfl (fun K C G hR => ?_)
  have e : kAd K = Ad := G.2.2.2.2.2.1
  have C2 := cC_of C G
  have h9 := w_X1_costFrom C2 σ k1a p2 p3 p4 ⟨_, h, by rw [hR]; exact ⟨rfl, rfl⟩⟩
  rw [e] at h9
  exact h9
theorem ck_X1_costFrom {K : Kx} {cc : ByteArray} {own : String} {nL d : Nat} {rty : Option FieldType} (C : CxC K cc own nL d rty) {σ : Mm} {k1a : Nat} {p2 : Int32} {p3 : Int32} {p4 : Int32} {τ : Mm} {r : Int32} (h : f_X1_costFrom σ k1a p2 p3 p4 = some (τ, r)) : CtI (kl K) (kD K) (ktys K) (kwf K) (kSt K) yX1_costFrom cX1_costFrom 5 .int 3 σ [.ref (kAd K 3), .ref (kAd K k1a), .int p2, .int p3, .int p4] (τ, r) := cC_eq C (P := fun l D tys wf St => CtI l D tys wf St yX1_costFrom cX1_costFrom 5 .int 3 σ [.ref (kAd K 3), .ref (kAd K k1a), .int p2, .int p3, .int p4] (τ, r)) (c_X1_costFrom _ _ _ _ _ _ h)
def f_X1_leastNext_s10 (p2 : Int32) (k1a : Nat) (p3 : Int32) (σ1 : Mm) (v1_4 : Int32) (v1_5 : Int32) (v1_6 : Int32) : Option ((Mm × Int32 × Int32 × Int32) ⊕ (Mm × Int32)) :=
  chk (inC 5 p2) ((if (σ1 5 p2.toNatClampNeg) ≤ v1_6 then some (.inr (σ1, v1_5)) else bn1 (f_X1_costFrom σ1 k1a p2 p3 v1_6) (fun σ5 r5 => (if v1_4 ≤ r5 then some (.inl (σ5, v1_4, v1_5, (v1_6 + 1))) else chk (inb p2 12) (chk (inC (7 + p2.toNatClampNeg) v1_6) (some (.inl (σ5, r5, (σ5 (7 + p2.toNatClampNeg) v1_6.toNatClampNeg), (v1_6 + 1)))))))))
def f_X1_leastNext (σ : Mm) (k1a : Nat) (p2 : Int32) (p3 : Int32) : Option (Mm × Int32) :=
  bn1 (lq3 (f_X1_leastNext_s10 p2 k1a p3) fu σ 1000000 0 0) (fun σ2 v2_5 => some (σ2, v2_5))
set_option maxHeartbeats 4000000 in
set_option maxRecDepth 100000 in
theorem w_X1_leastNext {K : Kx} (C : CxC K cX1_leastNext RX1 8 4 (some .int)) (σ : Mm) (k1a : Nat) (p2 : Int32) (p3 : Int32) (hf : Sat (f_X1_leastNext σ k1a p2 p3) (fun o => kRt K (some (.int o.2)) o.1)) : Gj K σ 0 [(0, .ref (kAd K 3)), (1, .ref (kAd K k1a)), (2, .int p2), (3, .int p3)] [] := by
  unfold f_X1_leastNext at hf
  have B := C.1
  refine g_ldc B wk_RX1_88 dX1_leastNext_0 ?_
  refine g_istore B [(0, .ref (kAd K 3)), (1, .ref (kAd K k1a)), (2, .int p2), (3, .int p3), (4, .int 1000000)] dX1_leastNext_2 (by decide) [1, 2, 3, 4, 0] rfl ?_
  refine g_iconst (v := 0) B dX1_leastNext_4 (by decide) ?_
  refine g_istore B [(0, .ref (kAd K 3)), (1, .ref (kAd K k1a)), (2, .int p2), (3, .int p3), (4, .int 1000000), (5, .int 0)] dX1_leastNext_5 (by decide) [1, 2, 3, 4, 5, 0] rfl ?_
  refine g_iconst (v := 0) B dX1_leastNext_7 (by decide) ?_
  refine g_istore B [(0, .ref (kAd K 3)), (1, .ref (kAd K k1a)), (2, .int p2), (3, .int p3), (4, .int 1000000), (5, .int 0), (6, .int 0)] dX1_leastNext_8 (by decide) [1, 2, 3, 4, 5, 6, 0] rfl ?_
  have hf := sat_cu1 (G := fun σ2 v2_5 => Gj K σ2 60 [(5, .int v2_5)] []) hf (by
    intro σ2 v2_5 hf
    refine g_iload B dX1_leastNext_60 0 rfl ?_
    have hf := sat_some hf
    exact g_iret B rfl rfl dX1_leastNext_62 hf)
  refine lqr3 (Gh := fun σ1 v1_4 v1_5 v1_6 => Gj K σ1 10 [(0, .ref (kAd K 3)), (1, .ref (kAd K k1a)), (2, .int p2), (3, .int p3), (4, .int v1_4), (5, .int v1_5), (6, .int v1_6)] []) ?_ fu σ 1000000 0 0 hf
  intro σ1 v1_4 v1_5 v1_6 hf
  unfold f_X1_leastNext_s10 at hf
  refine g_iload B dX1_leastNext_10 6 rfl ?_
  refine g_aload_n B dX1_leastNext_12 rfl 0 rfl ?_
  refine c_get_D_counts C wf_RX1_16 dX1_leastNext_13 ?_
  refine g_iload_n B dX1_leastNext_16 rfl 2 rfl ?_
  obtain ⟨h3, hf⟩ := sat_chk hf
  refine c_iald C h3 dX1_leastNext_17 ?_
  refine g_icmp_ge (tgt := 60) B dX1_leastNext_18 (by decide) (fun c4 => ?_) (fun c4 => ?_)
  · have hf := sat_t hf c4
    have hf := sum_r (sat_some hf)
    exact g_sub hf [5] rfl
  · have hf := sat_f hf c4
    refine g_aload_n B dX1_leastNext_21 rfl 0 rfl ?_
    refine g_aload_n B dX1_leastNext_22 rfl 1 rfl ?_
    refine g_iload_n B dX1_leastNext_23 rfl 2 rfl ?_
    refine g_iload_n B dX1_leastNext_24 rfl 3 rfl ?_
    refine g_iload B dX1_leastNext_25 6 rfl ?_
    obtain ⟨σ5, r5, h5, hf⟩ := sat_ca1 hf
    refine g_cVI (rest := []) B (ck_X1_costFrom C h5) mo_X1_costFrom wm_RX1_96 (by decide) (cC_o1 C) rfl rfl rfl (Nat.le_of_ble_eq_true rfl) dX1_leastNext_27 ?_
    refine g_istore B [(0, .ref (kAd K 3)), (1, .ref (kAd K k1a)), (2, .int p2), (3, .int p3), (4, .int v1_4), (5, .int v1_5), (6, .int v1_6), (7, .int r5)] dX1_leastNext_30 (by decide) [1, 2, 3, 4, 5, 6, 7, 0] rfl ?_
    refine g_iload B dX1_leastNext_32 7 rfl ?_
    refine g_iload B dX1_leastNext_34 4 rfl ?_
    refine g_icmp_ge (tgt := 54) B dX1_leastNext_36 (by decide) (fun c6 => ?_) (fun c6 => ?_)
    · have hf := sat_t hf c6
      refine g_iinc B (v1_6 + 1) [(0, .ref (kAd K 3)), (1, .ref (kAd K k1a)), (2, .int p2), (3, .int p3), (4, .int v1_4), (5, .int v1_5), (6, .int ((v1_6 + 1))), (7, .int r5)] dX1_leastNext_54 6 rfl rfl (by decide) [1, 2, 3, 4, 5, 6, 0, 7] rfl ?_
      refine g_goto (tgt := 10) B dX1_leastNext_57 (by decide) ?_
      have hf := sum_l (sat_some hf)
      exact g_sub hf [0, 1, 2, 3, 4, 5, 6] rfl
    · have hf := sat_f hf c6
      refine g_iload B dX1_leastNext_39 7 rfl ?_
      refine g_istore B [(0, .ref (kAd K 3)), (1, .ref (kAd K k1a)), (2, .int p2), (3, .int p3), (4, .int r5), (5, .int v1_5), (6, .int v1_6), (7, .int r5)] dX1_leastNext_41 (by decide) [1, 2, 3, 4, 0, 5, 6, 7] rfl ?_
      refine g_aload_n B dX1_leastNext_43 rfl 0 rfl ?_
      refine c_get_D_keys C wf_RX1_13 dX1_leastNext_44 ?_
      refine g_iload_n B dX1_leastNext_47 rfl 2 rfl ?_
      obtain ⟨h7, hf⟩ := sat_chk hf
      refine c_aald4 C h7 dX1_leastNext_48 ?_
      refine g_iload B dX1_leastNext_49 6 rfl ?_
      obtain ⟨h8, hf⟩ := sat_chk hf
      refine c_iald C h8 dX1_leastNext_51 ?_
      refine g_istore B [(0, .ref (kAd K 3)), (1, .ref (kAd K k1a)), (2, .int p2), (3, .int p3), (4, .int r5), (5, .int ((σ5 (7 + p2.toNatClampNeg) v1_6.toNatClampNeg))), (6, .int v1_6), (7, .int r5)] dX1_leastNext_52 (by decide) [1, 2, 3, 4, 5, 0, 6, 7] rfl ?_
      refine g_iinc B (v1_6 + 1) [(0, .ref (kAd K 3)), (1, .ref (kAd K k1a)), (2, .int p2), (3, .int p3), (4, .int r5), (5, .int ((σ5 (7 + p2.toNatClampNeg) v1_6.toNatClampNeg))), (6, .int ((v1_6 + 1))), (7, .int r5)] dX1_leastNext_54 6 rfl rfl (by decide) [1, 2, 3, 4, 5, 6, 0, 7] rfl ?_
      refine g_goto (tgt := 10) B dX1_leastNext_57 (by decide) ?_
      have hf := sum_l (sat_some hf)
      exact g_sub hf [0, 1, 2, 3, 4, 5, 6] rfl
theorem c_X1_leastNext (l : Launch) (D : va_G) (Ad : Nat → Nat) (cI cP cII : ClassId) {σ : Mm} {k1a : Nat} {p2 : Int32} {p3 : Int32} {τ : Mm} {r : Int32} (h : f_X1_leastNext σ k1a p2 p3 = some (τ, r)) : CtI l D (tysC cI cP cII) (wdC Ad cI cP cII) StC yX1_leastNext cX1_leastNext 8 .int 4 σ [.ref (Ad 3), .ref (Ad k1a), .int p2, .int p3] (τ, r) := by
  refine metI (Ad := Ad) (cI := cI) (cP := cP) (cII := cII) (by decide) (Nat.le_of_ble_eq_true rfl) (wdG_ok _ _ _) stOK_C rfl (fun K C G hR => ?_)
  have e : kAd K = Ad := G.2.2.2.2.2.1
  have C2 := cC_of C G
  have h9 := w_X1_leastNext C2 σ k1a p2 p3 ⟨_, h, by rw [hR]; exact ⟨rfl, rfl⟩⟩
  rw [e] at h9
  exact h9
theorem ck_X1_leastNext {K : Kx} {cc : ByteArray} {own : String} {nL d : Nat} {rty : Option FieldType} (C : CxC K cc own nL d rty) {σ : Mm} {k1a : Nat} {p2 : Int32} {p3 : Int32} {τ : Mm} {r : Int32} (h : f_X1_leastNext σ k1a p2 p3 = some (τ, r)) : CtI (kl K) (kD K) (ktys K) (kwf K) (kSt K) yX1_leastNext cX1_leastNext 8 .int 4 σ [.ref (kAd K 3), .ref (kAd K k1a), .int p2, .int p3] (τ, r) := cC_eq C (P := fun l D tys wf St => CtI l D tys wf St yX1_leastNext cX1_leastNext 8 .int 4 σ [.ref (kAd K 3), .ref (kAd K k1a), .int p2, .int p3] (τ, r)) (c_X1_leastNext _ _ _ _ _ _ h)
def f_X1_followLeast_s58 (k1a : Nat) (v2_2 : Int32) (σ3 : Mm) (v3_3 : Int32) : Option ((Mm × Int32) ⊕ (Mm)) :=
  chk (kdC k1a == 2) ((if (σ3 k1a 0) ≤ v3_3 then some (.inr σ3) else (if 1000000 ≤ v2_2 then some (.inr σ3) else chk (inC (k1a + 6) (v3_3 - 1)) (bn1 (f_X1_leastNext σ3 k1a v3_3 (σ3 (k1a + 6) (v3_3 - 1).toNatClampNeg)) (fun σ9 r9 => chk (inC (k1a + 6) v3_3) (nm (ms σ9 (k1a + 6) v3_3.toNatClampNeg r9) (fun σ10 => some (.inl (σ10, (v3_3 + 1))))))))))
def f_X1_followLeast_s5 (k1a : Nat) (σ1 : Mm) (v1_2 : Int32) (v1_3 : Int32) : Option ((Mm × Int32 × Int32) ⊕ (Mm × Int32)) :=
  chk (inC 5 0) ((if (σ1 5 (0 : Int32).toNatClampNeg) ≤ v1_3 then some (.inr (σ1, v1_2)) else chk (inb 0 12) (chk (inC (19 + (0 : Int32).toNatClampNeg) v1_3) ((if v1_2 ≤ (σ1 (19 + (0 : Int32).toNatClampNeg) v1_3.toNatClampNeg) then some (.inl (σ1, v1_2, (v1_3 + 1))) else chk (inb 0 12) (chk (inC (19 + (0 : Int32).toNatClampNeg) v1_3) (chk (kdC k1a == 2) (chk (inb 0 12) (chk (inC (7 + (0 : Int32).toNatClampNeg) v1_3) (chk (inC (k1a + 6) 0) (nm (ms σ1 (k1a + 6) (0 : Int32).toNatClampNeg (σ1 (7 + (0 : Int32).toNatClampNeg) v1_3.toNatClampNeg)) (fun σ21 => some (.inl (σ21, (σ1 (19 + (0 : Int32).toNatClampNeg) v1_3.toNatClampNeg), (v1_3 + 1)))))))))))))))
def f_X1_followLeast (σ : Mm) (k1a : Nat) : Option (Mm × Int32) :=
  bn1 (lq2 (f_X1_followLeast_s5 k1a) fu σ 1000000 0) (fun σ2 v2_2 => bn0 (lq1 (f_X1_followLeast_s58 k1a v2_2) fu σ2 1) (fun σ4 => some (σ4, v2_2)))
set_option maxHeartbeats 4000000 in
set_option maxRecDepth 100000 in
theorem w_X1_followLeast {K : Kx} (C : CxC K cX1_followLeast RX1 4 5 (some .int)) (σ : Mm) (k1a : Nat) (hf : Sat (f_X1_followLeast σ k1a) (fun o => kRt K (some (.int o.2)) o.1)) : Gj K σ 0 [(0, .ref (kAd K 3)), (1, .ref (kAd K k1a))] [] := by
  unfold f_X1_followLeast at hf
  have B := C.1
  refine g_ldc B wk_RX1_88 dX1_followLeast_0 ?_
  refine g_istore_n B [(0, .ref (kAd K 3)), (1, .ref (kAd K k1a)), (2, .int 1000000)] dX1_followLeast_2 rfl (by decide) [1, 2, 0] rfl ?_
  refine g_iconst (v := 0) B dX1_followLeast_3 (by decide) ?_
  refine g_istore_n B [(0, .ref (kAd K 3)), (1, .ref (kAd K k1a)), (2, .int 1000000), (3, .int 0)] dX1_followLeast_4 rfl (by decide) [1, 2, 3, 0] rfl ?_
  have hf := sat_cu1 (G := fun σ2 v2_2 => Gj K σ2 56 [(0, .ref (kAd K 3)), (1, .ref (kAd K k1a)), (2, .int v2_2)] []) hf (by
    intro σ2 v2_2 hf
    refine g_iconst (v := 1) B dX1_followLeast_56 (by decide) ?_
    refine g_istore_n B [(0, .ref (kAd K 3)), (1, .ref (kAd K k1a)), (2, .int v2_2), (3, .int 1)] dX1_followLeast_57 rfl (by decide) [1, 2, 3, 0] rfl ?_
    have hf := sat_cu0 (G := fun σ4 => Gj K σ4 98 [(2, .int v2_2)] []) hf (by
      intro σ4 hf
      refine g_iload_n B dX1_followLeast_98 rfl 0 rfl ?_
      have hf := sat_some hf
      exact g_iret B rfl rfl dX1_followLeast_99 hf)
    refine lqr1 (Gh := fun σ3 v3_3 => Gj K σ3 58 [(0, .ref (kAd K 3)), (1, .ref (kAd K k1a)), (2, .int v2_2), (3, .int v3_3)] []) ?_ fu σ2 1 hf
    intro σ3 v3_3 hf
    unfold f_X1_followLeast_s58 at hf
    refine g_iload_n B dX1_followLeast_58 rfl 3 rfl ?_
    refine g_aload_n B dX1_followLeast_59 rfl 1 rfl ?_
    obtain ⟨h5, hf⟩ := sat_chk hf
    refine c_get_P_count C (eq_of_beq h5) wf_RX1_68 dX1_followLeast_60 ?_
    refine g_icmp_ge (tgt := 98) B dX1_followLeast_63 (by decide) (fun c6 => ?_) (fun c6 => ?_)
    · have hf := sat_t hf c6
      have hf := sum_r (sat_some hf)
      exact g_sub hf [2] rfl
    · have hf := sat_f hf c6
      refine g_iload_n B dX1_followLeast_66 rfl 2 rfl ?_
      refine g_ldc B wk_RX1_88 dX1_followLeast_67 ?_
      refine g_icmp_ge (tgt := 98) B dX1_followLeast_69 (by decide) (fun c7 => ?_) (fun c7 => ?_)
      · have hf := sat_t hf c7
        have hf := sum_r (sat_some hf)
        exact g_sub hf [2] rfl
      · have hf := sat_f hf c7
        refine g_aload_n B dX1_followLeast_72 rfl 1 rfl ?_
        refine c_get_P_fingering C (eq_of_beq h5) wf_RX1_119 dX1_followLeast_73 ?_
        refine g_iload_n B dX1_followLeast_76 rfl 3 rfl ?_
        refine g_aload_n B dX1_followLeast_77 rfl 0 rfl ?_
        refine g_aload_n B dX1_followLeast_78 rfl 1 rfl ?_
        refine g_iload_n B dX1_followLeast_79 rfl 3 rfl ?_
        refine g_aload_n B dX1_followLeast_80 rfl 1 rfl ?_
        refine c_get_P_fingering C (eq_of_beq h5) wf_RX1_119 dX1_followLeast_81 ?_
        refine g_iload_n B dX1_followLeast_84 rfl 3 rfl ?_
        refine g_iconst (v := 1) B dX1_followLeast_85 (by decide) ?_
        refine g_isub B dX1_followLeast_86 ?_
        obtain ⟨h8, hf⟩ := sat_chk hf
        refine c_iald C h8 dX1_followLeast_87 ?_
        obtain ⟨σ9, r9, h9, hf⟩ := sat_ca1 hf
        refine g_cVI (rest := [.int v3_3, .ref (kAd K ((k1a + 6)))]) B (ck_X1_leastNext C h9) mo_X1_leastNext wm_RX1_122 (by decide) (cC_o1 C) rfl rfl rfl (Nat.le_of_ble_eq_true rfl) dX1_followLeast_88 ?_
        obtain ⟨h10, hf⟩ := sat_chk hf
        obtain ⟨σ10, e10, hf⟩ := sat_nm hf
        refine c_iast C h10 dX1_followLeast_91 (g_mem2 e10 ?_)
        refine g_iinc B (v3_3 + 1) [(0, .ref (kAd K 3)), (1, .ref (kAd K k1a)), (2, .int v2_2), (3, .int ((v3_3 + 1)))] dX1_followLeast_92 3 rfl rfl (by decide) [1, 2, 3, 0] rfl ?_
        refine g_goto (tgt := 58) B dX1_followLeast_95 (by decide) ?_
        have hf := sum_l (sat_some hf)
        exact g_sub hf [0, 1, 2, 3] rfl)
  refine lqr2 (Gh := fun σ1 v1_2 v1_3 => Gj K σ1 5 [(0, .ref (kAd K 3)), (1, .ref (kAd K k1a)), (2, .int v1_2), (3, .int v1_3)] []) ?_ fu σ 1000000 0 hf
  intro σ1 v1_2 v1_3 hf
  unfold f_X1_followLeast_s5 at hf
  refine g_iload_n B dX1_followLeast_5 rfl 3 rfl ?_
  refine g_aload_n B dX1_followLeast_6 rfl 0 rfl ?_
  refine c_get_D_counts C wf_RX1_16 dX1_followLeast_7 ?_
  refine g_iconst (v := 0) B dX1_followLeast_10 (by decide) ?_
  obtain ⟨h11, hf⟩ := sat_chk hf
  refine c_iald C h11 dX1_followLeast_11 ?_
  refine g_icmp_ge (tgt := 56) B dX1_followLeast_12 (by decide) (fun c12 => ?_) (fun c12 => ?_)
  · have hf := sat_t hf c12
    have hf := sum_r (sat_some hf)
    exact g_sub hf [0, 1, 2] rfl
  · have hf := sat_f hf c12
    refine g_aload_n B dX1_followLeast_15 rfl 0 rfl ?_
    refine c_get_D_costs C wf_RX1_20 dX1_followLeast_16 ?_
    refine g_iconst (v := 0) B dX1_followLeast_19 (by decide) ?_
    obtain ⟨h13, hf⟩ := sat_chk hf
    refine c_aald6 C h13 dX1_followLeast_20 ?_
    refine g_iload_n B dX1_followLeast_21 rfl 3 rfl ?_
    obtain ⟨h14, hf⟩ := sat_chk hf
    refine c_iald C h14 dX1_followLeast_22 ?_
    refine g_iload_n B dX1_followLeast_23 rfl 2 rfl ?_
    refine g_icmp_ge (tgt := 50) B dX1_followLeast_24 (by decide) (fun c15 => ?_) (fun c15 => ?_)
    · have hf := sat_t hf c15
      refine g_iinc B (v1_3 + 1) [(0, .ref (kAd K 3)), (1, .ref (kAd K k1a)), (2, .int v1_2), (3, .int ((v1_3 + 1)))] dX1_followLeast_50 3 rfl rfl (by decide) [1, 2, 3, 0] rfl ?_
      refine g_goto (tgt := 5) B dX1_followLeast_53 (by decide) ?_
      have hf := sum_l (sat_some hf)
      exact g_sub hf [0, 1, 2, 3] rfl
    · have hf := sat_f hf c15
      refine g_aload_n B dX1_followLeast_27 rfl 0 rfl ?_
      refine c_get_D_costs C wf_RX1_20 dX1_followLeast_28 ?_
      refine g_iconst (v := 0) B dX1_followLeast_31 (by decide) ?_
      obtain ⟨h16, hf⟩ := sat_chk hf
      refine c_aald6 C h16 dX1_followLeast_32 ?_
      refine g_iload_n B dX1_followLeast_33 rfl 3 rfl ?_
      obtain ⟨h17, hf⟩ := sat_chk hf
      refine c_iald C h17 dX1_followLeast_34 ?_
      refine g_istore_n B [(0, .ref (kAd K 3)), (1, .ref (kAd K k1a)), (2, .int ((σ1 (19 + (0 : Int32).toNatClampNeg) v1_3.toNatClampNeg))), (3, .int v1_3)] dX1_followLeast_35 rfl (by decide) [1, 2, 0, 3] rfl ?_
      refine g_aload_n B dX1_followLeast_36 rfl 1 rfl ?_
      obtain ⟨h18, hf⟩ := sat_chk hf
      refine c_get_P_fingering C (eq_of_beq h18) wf_RX1_119 dX1_followLeast_37 ?_
      refine g_iconst (v := 0) B dX1_followLeast_40 (by decide) ?_
      refine g_aload_n B dX1_followLeast_41 rfl 0 rfl ?_
      refine c_get_D_keys C wf_RX1_13 dX1_followLeast_42 ?_
      refine g_iconst (v := 0) B dX1_followLeast_45 (by decide) ?_
      obtain ⟨h19, hf⟩ := sat_chk hf
      refine c_aald4 C h19 dX1_followLeast_46 ?_
      refine g_iload_n B dX1_followLeast_47 rfl 3 rfl ?_
      obtain ⟨h20, hf⟩ := sat_chk hf
      refine c_iald C h20 dX1_followLeast_48 ?_
      obtain ⟨h21, hf⟩ := sat_chk hf
      obtain ⟨σ21, e21, hf⟩ := sat_nm hf
      refine c_iast C h21 dX1_followLeast_49 (g_mem2 e21 ?_)
      refine g_iinc B (v1_3 + 1) [(0, .ref (kAd K 3)), (1, .ref (kAd K k1a)), (2, .int ((σ1 (19 + (0 : Int32).toNatClampNeg) v1_3.toNatClampNeg))), (3, .int ((v1_3 + 1)))] dX1_followLeast_50 3 rfl rfl (by decide) [1, 2, 3, 0] rfl ?_
      refine g_goto (tgt := 5) B dX1_followLeast_53 (by decide) ?_
      have hf := sum_l (sat_some hf)
      exact g_sub hf [0, 1, 2, 3] rfl
theorem c_X1_followLeast (l : Launch) (D : va_G) (Ad : Nat → Nat) (cI cP cII : ClassId) {σ : Mm} {k1a : Nat} {τ : Mm} {r : Int32} (h : f_X1_followLeast σ k1a = some (τ, r)) : CtI l D (tysC cI cP cII) (wdC Ad cI cP cII) StC yX1_followLeast cX1_followLeast 4 .int 5 σ [.ref (Ad 3), .ref (Ad k1a)] (τ, r) := by
  refine metI (Ad := Ad) (cI := cI) (cP := cP) (cII := cII) (by decide) (Nat.le_of_ble_eq_true rfl) (wdG_ok _ _ _) stOK_C rfl (fun K C G hR => ?_)
  have e : kAd K = Ad := G.2.2.2.2.2.1
  have C2 := cC_of C G
  have h9 := w_X1_followLeast C2 σ k1a ⟨_, h, by rw [hR]; exact ⟨rfl, rfl⟩⟩
  rw [e] at h9
  exact h9
theorem ck_X1_followLeast {K : Kx} {cc : ByteArray} {own : String} {nL d : Nat} {rty : Option FieldType} (C : CxC K cc own nL d rty) {σ : Mm} {k1a : Nat} {τ : Mm} {r : Int32} (h : f_X1_followLeast σ k1a = some (τ, r)) : CtI (kl K) (kD K) (ktys K) (kwf K) (kSt K) yX1_followLeast cX1_followLeast 4 .int 5 σ [.ref (kAd K 3), .ref (kAd K k1a)] (τ, r) := cC_eq C (P := fun l D tys wf St => CtI l D tys wf St yX1_followLeast cX1_followLeast 4 .int 5 σ [.ref (kAd K 3), .ref (kAd K k1a)] (τ, r)) (c_X1_followLeast _ _ _ _ _ _ h)
