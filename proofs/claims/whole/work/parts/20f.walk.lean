def f_X5_shifts_s28 (k1 : Nat) (σ4 : Mm) (v4_3 : Int32) (v4_4 : Int32) : Option ((Mm × Int32 × Int32) ⊕ (Mm × Int32)) :=
  chk (kdC k1 == 2) ((if (σ4 k1 0) ≤ v4_4 then some (.inr (σ4, v4_3)) else chk (inC (k1 + 6) (v4_4 - 1)) (chk (inC (k1 + 6) v4_4) (bn1 (f_X2_shift σ4 (σ4 (k1 + 6) (v4_4 - 1).toNatClampNeg) (σ4 (k1 + 6) v4_4.toNatClampNeg)) (fun σ10 r10 => (if r10 = 0 then some (.inl (σ10, v4_3, (v4_4 + 1))) else some (.inl (σ10, (v4_3 + 1), (v4_4 + 1)))))))))
def f_X5_shifts (σ : Mm) (p1 : Int32) : Option (Mm × Int32) :=
  bn1 (f_X5_partAt σ p1) (fun σ1 r1 => onul r1 (some (σ1, (-1))) (fun k1 => bn1 (f_X5_hasFingering σ1 k1) (fun σ2 r2 => (if r2 = 0 then some (σ2, (-3)) else bn1 (lq2 (f_X5_shifts_s28 k1) fu σ2 0 1) (fun σ5 v5_3 => some (σ5, v5_3))))))
set_option maxHeartbeats 4000000 in
set_option maxRecDepth 100000 in
theorem w_X5_shifts {K : Kx} (C : CxC K cX5_shifts RX5 5 6 (some .int)) (σ : Mm) (p1 : Int32) (hf : Sat (f_X5_shifts σ p1) (fun o => kRt K (some (.int o.2)) o.1)) : Gj K σ 0 [(0, .ref (kAd K 0)), (1, .int p1)] [] := by
  unfold f_X5_shifts at hf
  have B := C.1
  refine g_aload_n B dX5_shifts_0 rfl 0 rfl ?_
  refine g_iload_n B dX5_shifts_1 rfl 1 rfl ?_
  obtain ⟨σ1, r1, h1, hf⟩ := sat_ca1 hf
  refine g_cVA (rest := []) B (ck_X5_partAt C h1) mo_X5_partAt wm_RX5_35 (by decide) (cC_o3 C) rfl rfl rfl (Nat.le_of_ble_eq_true rfl) dX5_shifts_2 ?_
  cases r1 with
  | none =>
    have hf := sat_on0 hf
    show Gj K σ1 5 [(0, .ref (kAd K 0)), (1, .int p1)] [.null]
    refine g_astore_nN B [(0, .ref (kAd K 0)), (1, .int p1), (2, .null)] dX5_shifts_5 rfl (by decide) [1, 2, 0] rfl ?_
    refine g_aload_nN B dX5_shifts_6 rfl 2 rfl ?_
    refine g_ifnonnullN B dX5_shifts_7 ?_
    refine g_iconst (v := (-1)) B dX5_shifts_10 (by decide) ?_
    have hf := sat_some hf
    exact g_iret B rfl rfl dX5_shifts_11 hf
  | some k1 =>
    have hf := sat_on1 hf
    show Gj K σ1 5 [(0, .ref (kAd K 0)), (1, .int p1)] [.ref (kAd K k1)]
    refine g_astore_n B [(0, .ref (kAd K 0)), (1, .int p1), (2, .ref (kAd K k1))] dX5_shifts_5 rfl (by decide) [1, 2, 0] rfl ?_
    refine g_aload_n B dX5_shifts_6 rfl 2 rfl ?_
    refine g_ifnonnull (tgt := 12) B dX5_shifts_7 (by decide) ?_
    refine g_aload_n B dX5_shifts_12 rfl 0 rfl ?_
    refine g_aload_n B dX5_shifts_13 rfl 2 rfl ?_
    obtain ⟨σ2, r2, h2, hf⟩ := sat_ca1 hf
    refine g_cVI (rest := []) B (ck_X5_hasFingering C h2) mo_X5_hasFingering wm_RX5_88 (by decide) (cC_o3 C) rfl rfl rfl (Nat.le_of_ble_eq_true rfl) dX5_shifts_14 ?_
    refine g_if_ne (tgt := 23) B dX5_shifts_17 (by decide) (fun c3 => ?_) (fun c3 => ?_)
    · have hf := sat_f hf c3
      refine g_iconst (v := 0) B dX5_shifts_23 (by decide) ?_
      refine g_istore_n B [(0, .ref (kAd K 0)), (1, .int p1), (2, .ref (kAd K k1)), (3, .int 0)] dX5_shifts_24 rfl (by decide) [1, 2, 3, 0] rfl ?_
      refine g_iconst (v := 1) B dX5_shifts_25 (by decide) ?_
      refine g_istore B [(0, .ref (kAd K 0)), (1, .int p1), (2, .ref (kAd K k1)), (3, .int 0), (4, .int 1)] dX5_shifts_26 (by decide) [1, 2, 3, 4, 0] rfl ?_
      refine g_sub (lv' := [(2, .ref (kAd K k1)), (3, .int 0), (4, .int 1)]) ?_ [2, 3, 4] rfl
      have hf := sat_cu1 (G := fun σ5 v5_3 => Gj K σ5 68 [(3, .int v5_3)] []) hf (by
        intro σ5 v5_3 hf
        refine g_iload_n B dX5_shifts_68 rfl 0 rfl ?_
        have hf := sat_some hf
        exact g_iret B rfl rfl dX5_shifts_69 hf)
      refine lqr2 (Gh := fun σ4 v4_3 v4_4 => Gj K σ4 28 [(2, .ref (kAd K k1)), (3, .int v4_3), (4, .int v4_4)] []) ?_ fu σ2 0 1 hf
      intro σ4 v4_3 v4_4 hf
      unfold f_X5_shifts_s28 at hf
      refine g_iload B dX5_shifts_28 2 rfl ?_
      refine g_aload_n B dX5_shifts_30 rfl 0 rfl ?_
      obtain ⟨h6, hf⟩ := sat_chk hf
      refine c_get_P_count C (eq_of_beq h6) wf_RX5_39 dX5_shifts_31 ?_
      refine g_icmp_ge (tgt := 68) B dX5_shifts_34 (by decide) (fun c7 => ?_) (fun c7 => ?_)
      · have hf := sat_t hf c7
        have hf := sum_r (sat_some hf)
        exact g_sub hf [1] rfl
      · have hf := sat_f hf c7
        refine g_aload_n B dX5_shifts_37 rfl 0 rfl ?_
        refine c_get_P_fingering C (eq_of_beq h6) wf_RX5_95 dX5_shifts_38 ?_
        refine g_iload B dX5_shifts_41 2 rfl ?_
        refine g_iconst (v := 1) B dX5_shifts_43 (by decide) ?_
        refine g_isub B dX5_shifts_44 ?_
        obtain ⟨h8, hf⟩ := sat_chk hf
        refine c_iald C h8 dX5_shifts_45 ?_
        refine g_aload_n B dX5_shifts_46 rfl 0 rfl ?_
        refine c_get_P_fingering C (eq_of_beq h6) wf_RX5_95 dX5_shifts_47 ?_
        refine g_iload B dX5_shifts_50 2 rfl ?_
        obtain ⟨h9, hf⟩ := sat_chk hf
        refine c_iald C h9 dX5_shifts_52 ?_
        obtain ⟨σ10, r10, h10, hf⟩ := sat_ca1 hf
        refine g_cSI (rest := []) B (ck_X2_shift C h10) mo_X2_shift wm_RX5_118 (by decide) rfl rfl (Nat.le_of_ble_eq_true rfl) dX5_shifts_53 ?_
        refine g_if_eq (tgt := 62) B dX5_shifts_56 (by decide) (fun c11 => ?_) (fun c11 => ?_)
        · have hf := sat_t hf c11
          refine g_iinc B (v4_4 + 1) [(2, .ref (kAd K k1)), (3, .int v4_3), (4, .int ((v4_4 + 1)))] dX5_shifts_62 2 rfl rfl (by decide) [1, 2, 0] rfl ?_
          refine g_goto (tgt := 28) B dX5_shifts_65 (by decide) ?_
          have hf := sum_l (sat_some hf)
          exact g_sub hf [0, 1, 2] rfl
        · have hf := sat_f hf c11
          refine g_iinc B (v4_3 + 1) [(2, .ref (kAd K k1)), (3, .int ((v4_3 + 1))), (4, .int v4_4)] dX5_shifts_59 1 rfl rfl (by decide) [1, 0, 2] rfl ?_
          refine g_iinc B (v4_4 + 1) [(2, .ref (kAd K k1)), (3, .int ((v4_3 + 1))), (4, .int ((v4_4 + 1)))] dX5_shifts_62 2 rfl rfl (by decide) [1, 2, 0] rfl ?_
          refine g_goto (tgt := 28) B dX5_shifts_65 (by decide) ?_
          have hf := sum_l (sat_some hf)
          exact g_sub hf [0, 1, 2] rfl
    · have hf := sat_t hf c3
      refine g_bipush (v := (-3)) B dX5_shifts_20 (by decide) ?_
      have hf := sat_some hf
      exact g_iret B rfl rfl dX5_shifts_22 hf
theorem c_X5_shifts (l : Launch) (D : va_G) (Ad : Nat → Nat) (cI cP cII : ClassId) {σ : Mm} {p1 : Int32} {τ : Mm} {r : Int32} (h : f_X5_shifts σ p1 = some (τ, r)) : CtI l D (tysC cI cP cII) (wdC Ad cI cP cII) StC yX5_shifts cX5_shifts 5 .int 6 σ [.ref (Ad 0), .int p1] (τ, r) := by
  refine metI (Ad := Ad) (cI := cI) (cP := cP) (cII := cII) (by decide) (Nat.le_of_ble_eq_true rfl) (wdG_ok _ _ _) stOK_C rfl (fun K C G hR => ?_)
  have e : kAd K = Ad := G.2.2.2.2.2.1
  have C2 := cC_of C G
  have h9 := w_X5_shifts C2 σ p1 ⟨_, h, by rw [hR]; exact ⟨rfl, rfl⟩⟩
  rw [e] at h9
  exact h9
theorem ck_X5_shifts {K : Kx} {cc : ByteArray} {own : String} {nL d : Nat} {rty : Option FieldType} (C : CxC K cc own nL d rty) {σ : Mm} {p1 : Int32} {τ : Mm} {r : Int32} (h : f_X5_shifts σ p1 = some (τ, r)) : CtI (kl K) (kD K) (ktys K) (kwf K) (kSt K) yX5_shifts cX5_shifts 5 .int 6 σ [.ref (kAd K 0), .int p1] (τ, r) := cC_eq C (P := fun l D tys wf St => CtI l D tys wf St yX5_shifts cX5_shifts 5 .int 6 σ [.ref (kAd K 0), .int p1] (τ, r)) (c_X5_shifts _ _ _ _ _ _ h)
def f_X0_isThere (σ : Mm) (k0 : Nat) : Option (Mm × Int32) :=
  chk (kdC k0 == 0) ((if 1000000 ≤ (σ k0 0) then some (σ, 0) else some (σ, 1)))
set_option maxHeartbeats 4000000 in
set_option maxRecDepth 100000 in
theorem w_X0_isThere {K : Kx} (C : CxC K cX0_isThere RX0 1 0 (some .boolean)) (σ : Mm) (k0 : Nat) (hf : Sat (f_X0_isThere σ k0) (fun o => kRt K (some (.int o.2)) o.1)) : Gj K σ 0 [(0, .ref (kAd K k0))] [] := by
  unfold f_X0_isThere at hf
  have B := C.1
  refine g_aload_n B dX0_isThere_0 rfl 0 rfl ?_
  obtain ⟨h1, hf⟩ := sat_chk hf
  refine c_get_B_cost C (eq_of_beq h1) wf_RX0_21 dX0_isThere_1 ?_
  refine g_ldc B wk_RX0_25 dX0_isThere_4 ?_
  refine g_icmp_ge (tgt := 13) B dX0_isThere_6 (by decide) (fun c2 => ?_) (fun c2 => ?_)
  · have hf := sat_t hf c2
    refine g_iconst (v := 0) B dX0_isThere_13 (by decide) ?_
    have hf := sat_some hf
    exact g_iret B rfl rfl dX0_isThere_14 hf
  · have hf := sat_f hf c2
    refine g_iconst (v := 1) B dX0_isThere_9 (by decide) ?_
    refine g_goto (tgt := 14) B dX0_isThere_10 (by decide) ?_
    have hf := sat_some hf
    exact g_iret B rfl rfl dX0_isThere_14 hf
theorem c_X0_isThere (l : Launch) (D : va_G) (Ad : Nat → Nat) (cI cP cII : ClassId) {σ : Mm} {k0 : Nat} {τ : Mm} {r : Int32} (h : f_X0_isThere σ k0 = some (τ, r)) : CtI l D (tysC cI cP cII) (wdC Ad cI cP cII) StC yX0_isThere cX0_isThere 1 .boolean 0 σ [.ref (Ad k0)] (τ, r) := by
  refine metI (Ad := Ad) (cI := cI) (cP := cP) (cII := cII) (by decide) (Nat.le_of_ble_eq_true rfl) (wdG_ok _ _ _) stOK_C rfl (fun K C G hR => ?_)
  have e : kAd K = Ad := G.2.2.2.2.2.1
  have C2 := cC_of C G
  have h9 := w_X0_isThere C2 σ k0 ⟨_, h, by rw [hR]; exact ⟨rfl, rfl⟩⟩
  rw [e] at h9
  exact h9
theorem ck_X0_isThere {K : Kx} {cc : ByteArray} {own : String} {nL d : Nat} {rty : Option FieldType} (C : CxC K cc own nL d rty) {σ : Mm} {k0 : Nat} {τ : Mm} {r : Int32} (h : f_X0_isThere σ k0 = some (τ, r)) : CtI (kl K) (kD K) (ktys K) (kwf K) (kSt K) yX0_isThere cX0_isThere 1 .boolean 0 σ [.ref (kAd K k0)] (τ, r) := cC_eq C (P := fun l D tys wf St => CtI l D tys wf St yX0_isThere cX0_isThere 1 .boolean 0 σ [.ref (kAd K k0)] (τ, r)) (c_X0_isThere _ _ _ _ _ _ h)
def f_X3_isMarked (σ : Mm) (k0 : Nat) (p1 : Int32) (p2 : Int32) : Option (Mm × Int32) :=
  chk (kdC k0 == 2) (chk (inC (k0 + 5) p1) ((if ((σ (k0 + 5) p1.toNatClampNeg) &&& p2) = 0 then some (σ, 0) else some (σ, 1))))
set_option maxHeartbeats 4000000 in
set_option maxRecDepth 100000 in
theorem w_X3_isMarked {K : Kx} (C : CxC K cX3_isMarked RX3 3 0 (some .boolean)) (σ : Mm) (k0 : Nat) (p1 : Int32) (p2 : Int32) (hf : Sat (f_X3_isMarked σ k0 p1 p2) (fun o => kRt K (some (.int o.2)) o.1)) : Gj K σ 0 [(0, .ref (kAd K k0)), (1, .int p1), (2, .int p2)] [] := by
  unfold f_X3_isMarked at hf
  have B := C.1
  refine g_aload_n B dX3_isMarked_0 rfl 0 rfl ?_
  obtain ⟨h1, hf⟩ := sat_chk hf
  refine c_get_P_marks C (eq_of_beq h1) wf_RX3_24 dX3_isMarked_1 ?_
  refine g_iload_n B dX3_isMarked_4 rfl 1 rfl ?_
  obtain ⟨h2, hf⟩ := sat_chk hf
  refine c_iald C h2 dX3_isMarked_5 ?_
  refine g_iload_n B dX3_isMarked_6 rfl 2 rfl ?_
  refine g_iand B dX3_isMarked_7 ?_
  refine g_if_eq (tgt := 15) B dX3_isMarked_8 (by decide) (fun c3 => ?_) (fun c3 => ?_)
  · have hf := sat_t hf c3
    refine g_iconst (v := 0) B dX3_isMarked_15 (by decide) ?_
    have hf := sat_some hf
    exact g_iret B rfl rfl dX3_isMarked_16 hf
  · have hf := sat_f hf c3
    refine g_iconst (v := 1) B dX3_isMarked_11 (by decide) ?_
    refine g_goto (tgt := 16) B dX3_isMarked_12 (by decide) ?_
    have hf := sat_some hf
    exact g_iret B rfl rfl dX3_isMarked_16 hf
theorem c_X3_isMarked (l : Launch) (D : va_G) (Ad : Nat → Nat) (cI cP cII : ClassId) {σ : Mm} {k0 : Nat} {p1 : Int32} {p2 : Int32} {τ : Mm} {r : Int32} (h : f_X3_isMarked σ k0 p1 p2 = some (τ, r)) : CtI l D (tysC cI cP cII) (wdC Ad cI cP cII) StC yX3_isMarked cX3_isMarked 3 .boolean 0 σ [.ref (Ad k0), .int p1, .int p2] (τ, r) := by
  refine metI (Ad := Ad) (cI := cI) (cP := cP) (cII := cII) (by decide) (Nat.le_of_ble_eq_true rfl) (wdG_ok _ _ _) stOK_C rfl (fun K C G hR => ?_)
  have e : kAd K = Ad := G.2.2.2.2.2.1
  have C2 := cC_of C G
  have h9 := w_X3_isMarked C2 σ k0 p1 p2 ⟨_, h, by rw [hR]; exact ⟨rfl, rfl⟩⟩
  rw [e] at h9
  exact h9
theorem ck_X3_isMarked {K : Kx} {cc : ByteArray} {own : String} {nL d : Nat} {rty : Option FieldType} (C : CxC K cc own nL d rty) {σ : Mm} {k0 : Nat} {p1 : Int32} {p2 : Int32} {τ : Mm} {r : Int32} (h : f_X3_isMarked σ k0 p1 p2 = some (τ, r)) : CtI (kl K) (kD K) (ktys K) (kwf K) (kSt K) yX3_isMarked cX3_isMarked 3 .boolean 0 σ [.ref (kAd K k0), .int p1, .int p2] (τ, r) := cC_eq C (P := fun l D tys wf St => CtI l D tys wf St yX3_isMarked cX3_isMarked 3 .boolean 0 σ [.ref (kAd K k0), .int p1, .int p2] (τ, r)) (c_X3_isMarked _ _ _ _ _ _ h)
def f_X0_turnCost (σ : Mm) (k0a : Nat) (p1 : Int32) (p2 : Int32) : Option (Mm × Int32) :=
  chk (kdC k0a == 2) (bn1 (f_X3_isMarked σ k0a p1 2) (fun σ1 r1 => (if r1 = 0 then (if p2 = 0 then some (σ1, 0) else bn1 (f_X3_isMarked σ1 k0a p1 1) (fun σ5 r5 => (if r5 = 0 then some (σ5, 3) else some (σ5, 1)))) else (if p2 = 0 then some (σ1, 2) else some (σ1, 0)))))
set_option maxHeartbeats 4000000 in
set_option maxRecDepth 100000 in
theorem w_X0_turnCost {K : Kx} (C : CxC K cX0_turnCost RX0 3 1 (some .int)) (σ : Mm) (k0a : Nat) (p1 : Int32) (p2 : Int32) (hf : Sat (f_X0_turnCost σ k0a p1 p2) (fun o => kRt K (some (.int o.2)) o.1)) : Gj K σ 0 [(0, .ref (kAd K k0a)), (1, .int p1), (2, .int p2)] [] := by
  unfold f_X0_turnCost at hf
  have B := C.1
  refine g_aload_n B dX0_turnCost_0 rfl 0 rfl ?_
  refine g_iload_n B dX0_turnCost_1 rfl 1 rfl ?_
  refine g_iconst (v := 2) B dX0_turnCost_2 (by decide) ?_
  obtain ⟨h2, hf⟩ := sat_chk hf
  obtain ⟨σ1, r1, h1, hf⟩ := sat_ca1 hf
  refine g_cVI (rest := []) B (ck_X3_isMarked C h1) mo_X3_isMarked wm_RX0_31 (by decide) (cC_o2 C (eq_of_beq h2)) rfl rfl rfl (Nat.le_of_ble_eq_true rfl) dX0_turnCost_3 ?_
  refine g_if_eq (tgt := 19) B dX0_turnCost_6 (by decide) (fun c3 => ?_) (fun c3 => ?_)
  · have hf := sat_t hf c3
    refine g_iload_n B dX0_turnCost_19 rfl 2 rfl ?_
    refine g_if_ne (tgt := 25) B dX0_turnCost_20 (by decide) (fun c4 => ?_) (fun c4 => ?_)
    · have hf := sat_f hf c4
      refine g_aload_n B dX0_turnCost_25 rfl 0 rfl ?_
      refine g_iload_n B dX0_turnCost_26 rfl 1 rfl ?_
      refine g_iconst (v := 1) B dX0_turnCost_27 (by decide) ?_
      obtain ⟨σ5, r5, h5, hf⟩ := sat_ca1 hf
      refine g_cVI (rest := []) B (ck_X3_isMarked C h5) mo_X3_isMarked wm_RX0_31 (by decide) (cC_o2 C (eq_of_beq h2)) rfl rfl rfl (Nat.le_of_ble_eq_true rfl) dX0_turnCost_28 ?_
      refine g_if_eq (tgt := 38) B dX0_turnCost_31 (by decide) (fun c6 => ?_) (fun c6 => ?_)
      · have hf := sat_t hf c6
        refine g_iconst (v := 3) B dX0_turnCost_38 (by decide) ?_
        have hf := sat_some hf
        exact g_iret B rfl rfl dX0_turnCost_39 hf
      · have hf := sat_f hf c6
        refine g_iconst (v := 1) B dX0_turnCost_34 (by decide) ?_
        refine g_goto (tgt := 39) B dX0_turnCost_35 (by decide) ?_
        have hf := sat_some hf
        exact g_iret B rfl rfl dX0_turnCost_39 hf
    · have hf := sat_t hf c4
      refine g_iconst (v := 0) B dX0_turnCost_23 (by decide) ?_
      have hf := sat_some hf
      exact g_iret B rfl rfl dX0_turnCost_24 hf
  · have hf := sat_f hf c3
    refine g_iload_n B dX0_turnCost_9 rfl 2 rfl ?_
    refine g_if_eq (tgt := 17) B dX0_turnCost_10 (by decide) (fun c7 => ?_) (fun c7 => ?_)
    · have hf := sat_t hf c7
      refine g_iconst (v := 2) B dX0_turnCost_17 (by decide) ?_
      have hf := sat_some hf
      exact g_iret B rfl rfl dX0_turnCost_18 hf
    · have hf := sat_f hf c7
      refine g_iconst (v := 0) B dX0_turnCost_13 (by decide) ?_
      refine g_goto (tgt := 18) B dX0_turnCost_14 (by decide) ?_
      have hf := sat_some hf
      exact g_iret B rfl rfl dX0_turnCost_18 hf
theorem c_X0_turnCost (l : Launch) (D : va_G) (Ad : Nat → Nat) (cI cP cII : ClassId) {σ : Mm} {k0a : Nat} {p1 : Int32} {p2 : Int32} {τ : Mm} {r : Int32} (h : f_X0_turnCost σ k0a p1 p2 = some (τ, r)) : CtI l D (tysC cI cP cII) (wdC Ad cI cP cII) StC yX0_turnCost cX0_turnCost 3 .int 1 σ [.ref (Ad k0a), .int p1, .int p2] (τ, r) := by
  refine metI (Ad := Ad) (cI := cI) (cP := cP) (cII := cII) (by decide) (Nat.le_of_ble_eq_true rfl) (wdG_ok _ _ _) stOK_C rfl (fun K C G hR => ?_)
  have e : kAd K = Ad := G.2.2.2.2.2.1
  have C2 := cC_of C G
  have h9 := w_X0_turnCost C2 σ k0a p1 p2 ⟨_, h, by rw [hR]; exact ⟨rfl, rfl⟩⟩
  rw [e] at h9
  exact h9
theorem ck_X0_turnCost {K : Kx} {cc : ByteArray} {own : String} {nL d : Nat} {rty : Option FieldType} (C : CxC K cc own nL d rty) {σ : Mm} {k0a : Nat} {p1 : Int32} {p2 : Int32} {τ : Mm} {r : Int32} (h : f_X0_turnCost σ k0a p1 p2 = some (τ, r)) : CtI (kl K) (kD K) (ktys K) (kwf K) (kSt K) yX0_turnCost cX0_turnCost 3 .int 1 σ [.ref (kAd K k0a), .int p1, .int p2] (τ, r) := cC_eq C (P := fun l D tys wf St => CtI l D tys wf St yX0_turnCost cX0_turnCost 3 .int 1 σ [.ref (kAd K k0a), .int p1, .int p2] (τ, r)) (c_X0_turnCost _ _ _ _ _ _ h)
def f_X0_costFrom (σ : Mm) (k0 : Nat) (k1a : Nat) (p2 : Int32) (p3 : Int32) (p4 : Int32) : Option (Mm × Int32) :=
  (if p4 = 0 then chk (kdC k0 == 0) (chk (inC (k0 + 2) p2) (bn1 ((if p3 = 0 then some (σ, 1) else some (σ, 0)) : Option (Mm × Int32)) (fun σ11 w11_0 => bn1 (f_X0_turnCost σ11 k1a p2 w11_0) (fun σ12 r12 => some (σ12, ((σ (k0 + 2) p2.toNatClampNeg) + r12)))))) else chk (kdC k1a == 2) (bn1 (f_X3_isMarked σ k1a p2 4) (fun σ2 r2 => (if r2 = 0 then chk (kdC k0 == 0) (chk (inC (k0 + 3) p2) (bn1 ((if p3 = 1 then some (σ2, 1) else some (σ2, 0)) : Option (Mm × Int32)) (fun σ7 w7_0 => bn1 (f_X0_turnCost σ7 k1a p2 w7_0) (fun σ8 r8 => some (σ8, ((σ2 (k0 + 3) p2.toNatClampNeg) + r8)))))) else some (σ2, 1000000)))))
set_option maxHeartbeats 4000000 in
set_option maxRecDepth 100000 in
theorem w_X0_costFrom {K : Kx} (C : CxC K cX0_costFrom RX0 5 2 (some .int)) (σ : Mm) (k0 : Nat) (k1a : Nat) (p2 : Int32) (p3 : Int32) (p4 : Int32) (hf : Sat (f_X0_costFrom σ k0 k1a p2 p3 p4) (fun o => kRt K (some (.int o.2)) o.1)) : Gj K σ 0 [(0, .ref (kAd K k0)), (1, .ref (kAd K k1a)), (2, .int p2), (3, .int p3), (4, .int p4)] [] := by
  unfold f_X0_costFrom at hf
  have B := C.1
  refine g_iload B dX0_costFrom_0 4 rfl ?_
  refine g_if_ne (tgt := 27) B dX0_costFrom_2 (by decide) (fun c1 => ?_) (fun c1 => ?_)
  · have hf := sat_f hf c1
    refine g_aload_n B dX0_costFrom_27 rfl 1 rfl ?_
    refine g_iload_n B dX0_costFrom_28 rfl 2 rfl ?_
    refine g_iconst (v := 4) B dX0_costFrom_29 (by decide) ?_
    obtain ⟨h3, hf⟩ := sat_chk hf
    obtain ⟨σ2, r2, h2, hf⟩ := sat_ca1 hf
    refine g_cVI (rest := []) B (ck_X3_isMarked C h2) mo_X3_isMarked wm_RX0_31 (by decide) (cC_o2 C (eq_of_beq h3)) rfl rfl rfl (Nat.le_of_ble_eq_true rfl) dX0_costFrom_30 ?_
    refine g_if_eq (tgt := 39) B dX0_costFrom_33 (by decide) (fun c4 => ?_) (fun c4 => ?_)
    · have hf := sat_t hf c4
      refine g_aload_n B dX0_costFrom_39 rfl 0 rfl ?_
      obtain ⟨h5, hf⟩ := sat_chk hf
      refine c_get_B_behindUp C (eq_of_beq h5) wf_RX0_18 dX0_costFrom_40 ?_
      refine g_iload_n B dX0_costFrom_43 rfl 2 rfl ?_
      obtain ⟨h6, hf⟩ := sat_chk hf
      refine c_iald C h6 dX0_costFrom_44 ?_
      refine g_aload_n B dX0_costFrom_45 rfl 1 rfl ?_
      refine g_iload_n B dX0_costFrom_46 rfl 2 rfl ?_
      refine g_iload_n B dX0_costFrom_47 rfl 3 rfl ?_
      refine g_iconst (v := 1) B dX0_costFrom_48 (by decide) ?_
      have hf := sat_cu1 (G := fun σ7 w7_0 => Gj K σ7 57 [] [.int w7_0, .int p2, .ref (kAd K k1a), .int ((σ2 (k0 + 3) p2.toNatClampNeg))]) hf (by
        intro σ7 w7_0 hf
        obtain ⟨σ8, r8, h8, hf⟩ := sat_ca1 hf
        refine g_cSI (rest := [.int ((σ2 (k0 + 3) p2.toNatClampNeg))]) B (ck_X0_turnCost C h8) mo_X0_turnCost wm_RX0_53 (by decide) rfl rfl (Nat.le_of_ble_eq_true rfl) dX0_costFrom_57 ?_
        refine g_iadd B dX0_costFrom_60 ?_
        have hf := sat_some hf
        exact g_iret B rfl rfl dX0_costFrom_61 hf)
      refine g_icmp_ne (tgt := 56) B dX0_costFrom_49 (by decide) (fun c7 => ?_) (fun c7 => ?_)
      · have hf := sat_f hf c7
        refine g_iconst (v := 0) B dX0_costFrom_56 (by decide) ?_
        have hf := sat_some hf
        exact g_sub hf [] rfl
      · have hf := sat_t hf c7
        refine g_iconst (v := 1) B dX0_costFrom_52 (by decide) ?_
        refine g_goto (tgt := 57) B dX0_costFrom_53 (by decide) ?_
        have hf := sat_some hf
        exact g_sub hf [] rfl
    · have hf := sat_f hf c4
      refine g_ldc B wk_RX0_25 dX0_costFrom_36 ?_
      have hf := sat_some hf
      exact g_iret B rfl rfl dX0_costFrom_38 hf
  · have hf := sat_t hf c1
    refine g_aload_n B dX0_costFrom_5 rfl 0 rfl ?_
    obtain ⟨h9, hf⟩ := sat_chk hf
    refine c_get_B_behindDown C (eq_of_beq h9) wf_RX0_15 dX0_costFrom_6 ?_
    refine g_iload_n B dX0_costFrom_9 rfl 2 rfl ?_
    obtain ⟨h10, hf⟩ := sat_chk hf
    refine c_iald C h10 dX0_costFrom_10 ?_
    refine g_aload_n B dX0_costFrom_11 rfl 1 rfl ?_
    refine g_iload_n B dX0_costFrom_12 rfl 2 rfl ?_
    refine g_iload_n B dX0_costFrom_13 rfl 3 rfl ?_
    have hf := sat_cu1 (G := fun σ11 w11_0 => Gj K σ11 22 [] [.int w11_0, .int p2, .ref (kAd K k1a), .int ((σ (k0 + 2) p2.toNatClampNeg))]) hf (by
      intro σ11 w11_0 hf
      obtain ⟨σ12, r12, h12, hf⟩ := sat_ca1 hf
      refine g_cSI (rest := [.int ((σ (k0 + 2) p2.toNatClampNeg))]) B (ck_X0_turnCost C h12) mo_X0_turnCost wm_RX0_53 (by decide) rfl rfl (Nat.le_of_ble_eq_true rfl) dX0_costFrom_22 ?_
      refine g_iadd B dX0_costFrom_25 ?_
      have hf := sat_some hf
      exact g_iret B rfl rfl dX0_costFrom_26 hf)
    refine g_if_ne (tgt := 21) B dX0_costFrom_14 (by decide) (fun c11 => ?_) (fun c11 => ?_)
    · have hf := sat_f hf c11
      refine g_iconst (v := 0) B dX0_costFrom_21 (by decide) ?_
      have hf := sat_some hf
      exact g_sub hf [] rfl
    · have hf := sat_t hf c11
      refine g_iconst (v := 1) B dX0_costFrom_17 (by decide) ?_
      refine g_goto (tgt := 22) B dX0_costFrom_18 (by decide) ?_
      have hf := sat_some hf
      exact g_sub hf [] rfl
theorem c_X0_costFrom (l : Launch) (D : va_G) (Ad : Nat → Nat) (cI cP cII : ClassId) {σ : Mm} {k0 : Nat} {k1a : Nat} {p2 : Int32} {p3 : Int32} {p4 : Int32} {τ : Mm} {r : Int32} (h : f_X0_costFrom σ k0 k1a p2 p3 p4 = some (τ, r)) : CtI l D (tysC cI cP cII) (wdC Ad cI cP cII) StC yX0_costFrom cX0_costFrom 5 .int 2 σ [.ref (Ad k0), .ref (Ad k1a), .int p2, .int p3, .int p4] (τ, r) := by
  refine metI (Ad := Ad) (cI := cI) (cP := cP) (cII := cII) (by decide) (Nat.le_of_ble_eq_true rfl) (wdG_ok _ _ _) stOK_C rfl (fun K C G hR => ?_)
  have e : kAd K = Ad := G.2.2.2.2.2.1
  have C2 := cC_of C G
  have h9 := w_X0_costFrom C2 σ k0 k1a p2 p3 p4 ⟨_, h, by rw [hR]; exact ⟨rfl, rfl⟩⟩
  rw [e] at h9
  exact h9
theorem ck_X0_costFrom {K : Kx} {cc : ByteArray} {own : String} {nL d : Nat} {rty : Option FieldType} (C : CxC K cc own nL d rty) {σ : Mm} {k0 : Nat} {k1a : Nat} {p2 : Int32} {p3 : Int32} {p4 : Int32} {τ : Mm} {r : Int32} (h : f_X0_costFrom σ k0 k1a p2 p3 p4 = some (τ, r)) : CtI (kl K) (kD K) (ktys K) (kwf K) (kSt K) yX0_costFrom cX0_costFrom 5 .int 2 σ [.ref (kAd K k0), .ref (kAd K k1a), .int p2, .int p3, .int p4] (τ, r) := cC_eq C (P := fun l D tys wf St => CtI l D tys wf St yX0_costFrom cX0_costFrom 5 .int 2 σ [.ref (kAd K k0), .ref (kAd K k1a), .int p2, .int p3, .int p4] (τ, r)) (c_X0_costFrom _ _ _ _ _ _ h)
def f_X0_follow_s9 (k1a : Nat) (k0 : Nat) (σ3 : Mm) (v3_3 : Int32) : Option ((Mm × Int32) ⊕ (Mm)) :=
  chk (kdC k1a == 2) ((if (σ3 k1a 0) ≤ v3_3 then some (.inr σ3) else chk (inC (k0 + 1) (v3_3 - 1)) (bn1 (f_X0_costFrom σ3 k0 k1a v3_3 (σ3 (k0 + 1) (v3_3 - 1).toNatClampNeg) 0) (fun σ8 r8 => bn1 (f_X0_costFrom σ8 k0 k1a v3_3 (σ3 (k0 + 1) (v3_3 - 1).toNatClampNeg) 1) (fun σ9 r9 => bn1 ((if r9 < r8 then some (σ9, 0) else some (σ9, 1)) : Option (Mm × Int32)) (fun σ10 w10_0 => bn1 ((if w10_0 = 0 then some (σ10, 1) else some (σ10, 0)) : Option (Mm × Int32)) (fun σ11 w11_0 => chk (inC (k0 + 1) v3_3) (nm (ms σ11 (k0 + 1) v3_3.toNatClampNeg w11_0) (fun σ12 => some (.inl (σ12, (v3_3 + 1))))))))))))
def f_X0_follow (σ : Mm) (k0 : Nat) (k1a : Nat) (p2 : Int32) : Option (Mm) :=
  chk (kdC k0 == 0) (chk (inC (k0 + 1) 0) (nm (ms σ (k0 + 1) (0 : Int32).toNatClampNeg p2) (fun σ2 => bn0 (lq1 (f_X0_follow_s9 k1a k0) fu σ2 1) (fun σ4 => some σ4))))
set_option maxHeartbeats 4000000 in
set_option maxRecDepth 100000 in
theorem w_X0_follow {K : Kx} (C : CxC K cX0_follow RX0 6 3 none) (σ : Mm) (k0 : Nat) (k1a : Nat) (p2 : Int32) (hf : Sat (f_X0_follow σ k0 k1a p2) (fun o => kRt K none o)) : Gj K σ 0 [(0, .ref (kAd K k0)), (1, .ref (kAd K k1a)), (2, .int p2)] [] := by
  unfold f_X0_follow at hf
  have B := C.1
  refine g_aload_n B dX0_follow_0 rfl 0 rfl ?_
  obtain ⟨h1, hf⟩ := sat_chk hf
  refine c_get_B_directions C (eq_of_beq h1) wf_RX0_9 dX0_follow_1 ?_
  refine g_iconst (v := 0) B dX0_follow_4 (by decide) ?_
  refine g_iload_n B dX0_follow_5 rfl 2 rfl ?_
  obtain ⟨h2, hf⟩ := sat_chk hf
  obtain ⟨σ2, e2, hf⟩ := sat_nm hf
  refine c_iast C h2 dX0_follow_6 (g_mem2 e2 ?_)
  refine g_iconst (v := 1) B dX0_follow_7 (by decide) ?_
  refine g_istore_n B [(0, .ref (kAd K k0)), (1, .ref (kAd K k1a)), (2, .int p2), (3, .int 1)] dX0_follow_8 rfl (by decide) [1, 2, 3, 0] rfl ?_
  refine g_sub (lv' := [(0, .ref (kAd K k0)), (1, .ref (kAd K k1a)), (3, .int 1)]) ?_ [0, 1, 3] rfl
  have hf := sat_cu0 (G := fun σ4 => Gj K σ4 77 [] []) hf (by
    intro σ4 hf
    have hf := sat_some hf
    exact g_vret B rfl dX0_follow_77 hf)
  refine lqr1 (Gh := fun σ3 v3_3 => Gj K σ3 9 [(0, .ref (kAd K k0)), (1, .ref (kAd K k1a)), (3, .int v3_3)] []) ?_ fu σ2 1 hf
  intro σ3 v3_3 hf
  unfold f_X0_follow_s9 at hf
  refine g_iload_n B dX0_follow_9 rfl 2 rfl ?_
  refine g_aload_n B dX0_follow_10 rfl 1 rfl ?_
  obtain ⟨h5, hf⟩ := sat_chk hf
  refine c_get_P_count C (eq_of_beq h5) wf_RX0_26 dX0_follow_11 ?_
  refine g_icmp_ge (tgt := 77) B dX0_follow_14 (by decide) (fun c6 => ?_) (fun c6 => ?_)
  · have hf := sat_t hf c6
    have hf := sum_r (sat_some hf)
    exact g_sub hf [] rfl
  · have hf := sat_f hf c6
    refine g_aload_n B dX0_follow_17 rfl 0 rfl ?_
    refine c_get_B_directions C (eq_of_beq h1) wf_RX0_9 dX0_follow_18 ?_
    refine g_iload_n B dX0_follow_21 rfl 2 rfl ?_
    refine g_iconst (v := 1) B dX0_follow_22 (by decide) ?_
    refine g_isub B dX0_follow_23 ?_
    obtain ⟨h7, hf⟩ := sat_chk hf
    refine c_iald C h7 dX0_follow_24 ?_
    refine g_istore B [(0, .ref (kAd K k0)), (1, .ref (kAd K k1a)), (3, .int v3_3), (4, .int ((σ3 (k0 + 1) (v3_3 - 1).toNatClampNeg)))] dX0_follow_25 (by decide) [1, 2, 3, 0] rfl ?_
    refine g_aload_n B dX0_follow_27 rfl 0 rfl ?_
    refine g_aload_n B dX0_follow_28 rfl 1 rfl ?_
    refine g_iload_n B dX0_follow_29 rfl 2 rfl ?_
    refine g_iload B dX0_follow_30 3 rfl ?_
    refine g_iconst (v := 0) B dX0_follow_32 (by decide) ?_
    obtain ⟨σ8, r8, h8, hf⟩ := sat_ca1 hf
    refine g_cVI (rest := []) B (ck_X0_costFrom C h8) mo_X0_costFrom wm_RX0_43 (by decide) (cC_o0 C (eq_of_beq h1)) rfl rfl rfl (Nat.le_of_ble_eq_true rfl) dX0_follow_33 ?_
    refine g_aload_n B dX0_follow_36 rfl 0 rfl ?_
    refine g_aload_n B dX0_follow_37 rfl 1 rfl ?_
    refine g_iload_n B dX0_follow_38 rfl 2 rfl ?_
    refine g_iload B dX0_follow_39 3 rfl ?_
    refine g_iconst (v := 1) B dX0_follow_41 (by decide) ?_
    obtain ⟨σ9, r9, h9, hf⟩ := sat_ca1 hf
    refine g_cVI (rest := [.int r8]) B (ck_X0_costFrom C h9) mo_X0_costFrom wm_RX0_43 (by decide) (cC_o0 C (eq_of_beq h1)) rfl rfl rfl (Nat.le_of_ble_eq_true rfl) dX0_follow_42 ?_
    have hf := sat_cu1 (G := fun σ10 w10_0 => Gj K σ10 53 [(0, .ref (kAd K k0)), (1, .ref (kAd K k1a)), (3, .int v3_3)] [.int w10_0]) hf (by
      intro σ10 w10_0 hf
      refine g_istore B [(0, .ref (kAd K k0)), (1, .ref (kAd K k1a)), (3, .int v3_3), (5, .int w10_0)] dX0_follow_53 (by decide) [1, 2, 3, 0] rfl ?_
      refine g_aload_n B dX0_follow_55 rfl 0 rfl ?_
      refine c_get_B_directions C (eq_of_beq h1) wf_RX0_9 dX0_follow_56 ?_
      refine g_iload_n B dX0_follow_59 rfl 2 rfl ?_
      refine g_iload B dX0_follow_60 3 rfl ?_
      have hf := sat_cu1 (G := fun σ11 w11_0 => Gj K σ11 70 [(0, .ref (kAd K k0)), (1, .ref (kAd K k1a)), (3, .int v3_3)] [.int w11_0, .int v3_3, .ref (kAd K ((k0 + 1)))]) hf (by
        intro σ11 w11_0 hf
        obtain ⟨h12, hf⟩ := sat_chk hf
        obtain ⟨σ12, e12, hf⟩ := sat_nm hf
        refine c_iast C h12 dX0_follow_70 (g_mem2 e12 ?_)
        refine g_iinc B (v3_3 + 1) [(0, .ref (kAd K k0)), (1, .ref (kAd K k1a)), (3, .int ((v3_3 + 1)))] dX0_follow_71 2 rfl rfl (by decide) [1, 2, 0] rfl ?_
        refine g_goto (tgt := 9) B dX0_follow_74 (by decide) ?_
        have hf := sum_l (sat_some hf)
        exact g_sub hf [0, 1, 2] rfl)
      refine g_if_eq (tgt := 69) B dX0_follow_62 (by decide) (fun c11 => ?_) (fun c11 => ?_)
      · have hf := sat_t hf c11
        refine g_iconst (v := 1) B dX0_follow_69 (by decide) ?_
        have hf := sat_some hf
        exact g_sub hf [0, 1, 2] rfl
      · have hf := sat_f hf c11
        refine g_iconst (v := 0) B dX0_follow_65 (by decide) ?_
        refine g_goto (tgt := 70) B dX0_follow_66 (by decide) ?_
        have hf := sat_some hf
        exact g_sub hf [0, 1, 2] rfl)
    refine g_icmp_gt (tgt := 52) B dX0_follow_45 (by decide) (fun c10 => ?_) (fun c10 => ?_)
    · have hf := sat_t hf c10
      refine g_iconst (v := 0) B dX0_follow_52 (by decide) ?_
      have hf := sat_some hf
      exact g_sub hf [0, 1, 2] rfl
    · have hf := sat_f hf c10
      refine g_iconst (v := 1) B dX0_follow_48 (by decide) ?_
      refine g_goto (tgt := 53) B dX0_follow_49 (by decide) ?_
      have hf := sat_some hf
      exact g_sub hf [0, 1, 2] rfl
theorem c_X0_follow (l : Launch) (D : va_G) (Ad : Nat → Nat) (cI cP cII : ClassId) {σ : Mm} {k0 : Nat} {k1a : Nat} {p2 : Int32} {τ : Mm} (h : f_X0_follow σ k0 k1a p2 = some τ) : CtV l D (tysC cI cP cII) (wdC Ad cI cP cII) StC yX0_follow cX0_follow 6 3 σ [.ref (Ad k0), .ref (Ad k1a), .int p2] τ := by
  refine metV (Ad := Ad) (cI := cI) (cP := cP) (cII := cII) (by decide) (Nat.le_of_ble_eq_true rfl) (wdG_ok _ _ _) stOK_C rfl (fun K C G hR => ?_)
  have e : kAd K = Ad := G.2.2.2.2.2.1
  have C2 := cC_of C G
  have h9 := w_X0_follow C2 σ k0 k1a p2 ⟨_, h, by rw [hR]; exact ⟨rfl, rfl⟩⟩
  rw [e] at h9
  exact h9
theorem ck_X0_follow {K : Kx} {cc : ByteArray} {own : String} {nL d : Nat} {rty : Option FieldType} (C : CxC K cc own nL d rty) {σ : Mm} {k0 : Nat} {k1a : Nat} {p2 : Int32} {τ : Mm} (h : f_X0_follow σ k0 k1a p2 = some τ) : CtV (kl K) (kD K) (ktys K) (kwf K) (kSt K) yX0_follow cX0_follow 6 3 σ [.ref (kAd K k0), .ref (kAd K k1a), .int p2] τ := cC_eq C (P := fun l D tys wf St => CtV l D tys wf St yX0_follow cX0_follow 6 3 σ [.ref (kAd K k0), .ref (kAd K k1a), .int p2] τ) (c_X0_follow _ _ _ _ _ _ h)
def f_X0_reckonBehind_s23 (k0 : Nat) (k1a : Nat) (σ5 : Mm) (v5_3 : Int32) : Option ((Mm × Int32) ⊕ (Mm)) :=
  (if v5_3 ≤ 0 then some (.inr σ5) else bn1 (f_X0_costFrom σ5 k0 k1a v5_3 0 0) (fun σ8 r8 => bn1 (f_X0_costFrom σ8 k0 k1a v5_3 0 1) (fun σ9 r9 => chk (inC (k0 + 2) (v5_3 - 1)) (nm (ms σ9 (k0 + 2) (v5_3 - 1).toNatClampNeg (if r9 < r8 then r9 else r8)) (fun σ10 => bn1 (f_X0_costFrom σ10 k0 k1a v5_3 1 0) (fun σ11 r11 => bn1 (f_X0_costFrom σ11 k0 k1a v5_3 1 1) (fun σ12 r12 => chk (inC (k0 + 3) (v5_3 - 1)) (nm (ms σ12 (k0 + 3) (v5_3 - 1).toNatClampNeg (if r12 < r11 then r12 else r11)) (fun σ13 => some (.inl (σ13, (v5_3 + (-1)))))))))))))
def f_X0_reckonBehind (σ : Mm) (k0 : Nat) (k1a : Nat) : Option (Mm) :=
  chk (kdC k1a == 2) (chk (kdC k0 == 0) (chk (inC (k0 + 2) ((σ k1a 0) - 1)) (nm (ms σ (k0 + 2) ((σ k1a 0) - 1).toNatClampNeg 0) (fun σ3 => chk (inC (k0 + 3) ((σ k1a 0) - 1)) (nm (ms σ3 (k0 + 3) ((σ k1a 0) - 1).toNatClampNeg 0) (fun σ4 => bn0 (lq1 (f_X0_reckonBehind_s23 k0 k1a) fu σ4 ((σ k1a 0) - 1)) (fun σ6 => some σ6)))))))
set_option maxHeartbeats 4000000 in
set_option maxRecDepth 100000 in
theorem w_X0_reckonBehind {K : Kx} (C : CxC K cX0_reckonBehind RX0 4 3 none) (σ : Mm) (k0 : Nat) (k1a : Nat) (hf : Sat (f_X0_reckonBehind σ k0 k1a) (fun o => kRt K none o)) : Gj K σ 0 [(0, .ref (kAd K k0)), (1, .ref (kAd K k1a))] [] := by
  unfold f_X0_reckonBehind at hf
  have B := C.1
  refine g_aload_n B dX0_reckonBehind_0 rfl 1 rfl ?_
  obtain ⟨h1, hf⟩ := sat_chk hf
  refine c_get_P_count C (eq_of_beq h1) wf_RX0_26 dX0_reckonBehind_1 ?_
  refine g_iconst (v := 1) B dX0_reckonBehind_4 (by decide) ?_
  refine g_isub B dX0_reckonBehind_5 ?_
  refine g_istore_n B [(0, .ref (kAd K k0)), (1, .ref (kAd K k1a)), (2, .int (((σ k1a 0) - 1)))] dX0_reckonBehind_6 rfl (by decide) [1, 2, 0] rfl ?_
  refine g_aload_n B dX0_reckonBehind_7 rfl 0 rfl ?_
  obtain ⟨h2, hf⟩ := sat_chk hf
  refine c_get_B_behindDown C (eq_of_beq h2) wf_RX0_15 dX0_reckonBehind_8 ?_
  refine g_iload_n B dX0_reckonBehind_11 rfl 2 rfl ?_
  refine g_iconst (v := 0) B dX0_reckonBehind_12 (by decide) ?_
  obtain ⟨h3, hf⟩ := sat_chk hf
  obtain ⟨σ3, e3, hf⟩ := sat_nm hf
  refine c_iast C h3 dX0_reckonBehind_13 (g_mem2 e3 ?_)
  refine g_aload_n B dX0_reckonBehind_14 rfl 0 rfl ?_
  refine c_get_B_behindUp C (eq_of_beq h2) wf_RX0_18 dX0_reckonBehind_15 ?_
  refine g_iload_n B dX0_reckonBehind_18 rfl 2 rfl ?_
  refine g_iconst (v := 0) B dX0_reckonBehind_19 (by decide) ?_
  obtain ⟨h4, hf⟩ := sat_chk hf
  obtain ⟨σ4, e4, hf⟩ := sat_nm hf
  refine c_iast C h4 dX0_reckonBehind_20 (g_mem2 e4 ?_)
  refine g_iload_n B dX0_reckonBehind_21 rfl 2 rfl ?_
  refine g_istore_n B [(0, .ref (kAd K k0)), (1, .ref (kAd K k1a)), (2, .int (((σ k1a 0) - 1))), (3, .int (((σ k1a 0) - 1)))] dX0_reckonBehind_22 rfl (by decide) [1, 2, 3, 0] rfl ?_
  refine g_sub (lv' := [(0, .ref (kAd K k0)), (1, .ref (kAd K k1a)), (3, .int (((σ k1a 0) - 1)))]) ?_ [0, 1, 3] rfl
  have hf := sat_cu0 (G := fun σ6 => Gj K σ6 87 [] []) hf (by
    intro σ6 hf
    have hf := sat_some hf
    exact g_vret B rfl dX0_reckonBehind_87 hf)
  refine lqr1 (Gh := fun σ5 v5_3 => Gj K σ5 23 [(0, .ref (kAd K k0)), (1, .ref (kAd K k1a)), (3, .int v5_3)] []) ?_ fu σ4 ((σ k1a 0) - 1) hf
  intro σ5 v5_3 hf
  unfold f_X0_reckonBehind_s23 at hf
  refine g_iload_n B dX0_reckonBehind_23 rfl 2 rfl ?_
  refine g_if_le (tgt := 87) B dX0_reckonBehind_24 (by decide) (fun c7 => ?_) (fun c7 => ?_)
  · have hf := sat_t hf c7
    have hf := sum_r (sat_some hf)
    exact g_sub hf [] rfl
  · have hf := sat_f hf c7
    refine g_aload_n B dX0_reckonBehind_27 rfl 0 rfl ?_
    refine c_get_B_behindDown C (eq_of_beq h2) wf_RX0_15 dX0_reckonBehind_28 ?_
    refine g_iload_n B dX0_reckonBehind_31 rfl 2 rfl ?_
    refine g_iconst (v := 1) B dX0_reckonBehind_32 (by decide) ?_
    refine g_isub B dX0_reckonBehind_33 ?_
    refine g_aload_n B dX0_reckonBehind_34 rfl 0 rfl ?_
    refine g_aload_n B dX0_reckonBehind_35 rfl 1 rfl ?_
    refine g_iload_n B dX0_reckonBehind_36 rfl 2 rfl ?_
    refine g_iconst (v := 0) B dX0_reckonBehind_37 (by decide) ?_
    refine g_iconst (v := 0) B dX0_reckonBehind_38 (by decide) ?_
    obtain ⟨σ8, r8, h8, hf⟩ := sat_ca1 hf
    refine g_cVI (rest := [.int ((v5_3 - 1)), .ref (kAd K ((k0 + 2)))]) B (ck_X0_costFrom C h8) mo_X0_costFrom wm_RX0_43 (by decide) (cC_o0 C (eq_of_beq h2)) rfl rfl rfl (Nat.le_of_ble_eq_true rfl) dX0_reckonBehind_39 ?_
    refine g_aload_n B dX0_reckonBehind_42 rfl 0 rfl ?_
    refine g_aload_n B dX0_reckonBehind_43 rfl 1 rfl ?_
    refine g_iload_n B dX0_reckonBehind_44 rfl 2 rfl ?_
    refine g_iconst (v := 0) B dX0_reckonBehind_45 (by decide) ?_
    refine g_iconst (v := 1) B dX0_reckonBehind_46 (by decide) ?_
    obtain ⟨σ9, r9, h9, hf⟩ := sat_ca1 hf
    refine g_cVI (rest := [.int r8, .int ((v5_3 - 1)), .ref (kAd K ((k0 + 2)))]) B (ck_X0_costFrom C h9) mo_X0_costFrom wm_RX0_43 (by decide) (cC_o0 C (eq_of_beq h2)) rfl rfl rfl (Nat.le_of_ble_eq_true rfl) dX0_reckonBehind_47 ?_
    refine g_mmin B wm_RX0_47 wms_min wmi wmc_min (by decide) (Nat.le_of_ble_eq_true rfl) dX0_reckonBehind_50 ?_
    obtain ⟨h10, hf⟩ := sat_chk hf
    obtain ⟨σ10, e10, hf⟩ := sat_nm hf
    refine c_iast C h10 dX0_reckonBehind_53 (g_mem2 e10 ?_)
    refine g_aload_n B dX0_reckonBehind_54 rfl 0 rfl ?_
    refine c_get_B_behindUp C (eq_of_beq h2) wf_RX0_18 dX0_reckonBehind_55 ?_
    refine g_iload_n B dX0_reckonBehind_58 rfl 2 rfl ?_
    refine g_iconst (v := 1) B dX0_reckonBehind_59 (by decide) ?_
    refine g_isub B dX0_reckonBehind_60 ?_
    refine g_aload_n B dX0_reckonBehind_61 rfl 0 rfl ?_
    refine g_aload_n B dX0_reckonBehind_62 rfl 1 rfl ?_
    refine g_iload_n B dX0_reckonBehind_63 rfl 2 rfl ?_
    refine g_iconst (v := 1) B dX0_reckonBehind_64 (by decide) ?_
    refine g_iconst (v := 0) B dX0_reckonBehind_65 (by decide) ?_
    obtain ⟨σ11, r11, h11, hf⟩ := sat_ca1 hf
    refine g_cVI (rest := [.int ((v5_3 - 1)), .ref (kAd K ((k0 + 3)))]) B (ck_X0_costFrom C h11) mo_X0_costFrom wm_RX0_43 (by decide) (cC_o0 C (eq_of_beq h2)) rfl rfl rfl (Nat.le_of_ble_eq_true rfl) dX0_reckonBehind_66 ?_
    refine g_aload_n B dX0_reckonBehind_69 rfl 0 rfl ?_
    refine g_aload_n B dX0_reckonBehind_70 rfl 1 rfl ?_
    refine g_iload_n B dX0_reckonBehind_71 rfl 2 rfl ?_
    refine g_iconst (v := 1) B dX0_reckonBehind_72 (by decide) ?_
    refine g_iconst (v := 1) B dX0_reckonBehind_73 (by decide) ?_
    obtain ⟨σ12, r12, h12, hf⟩ := sat_ca1 hf
    refine g_cVI (rest := [.int r11, .int ((v5_3 - 1)), .ref (kAd K ((k0 + 3)))]) B (ck_X0_costFrom C h12) mo_X0_costFrom wm_RX0_43 (by decide) (cC_o0 C (eq_of_beq h2)) rfl rfl rfl (Nat.le_of_ble_eq_true rfl) dX0_reckonBehind_74 ?_
    refine g_mmin B wm_RX0_47 wms_min wmi wmc_min (by decide) (Nat.le_of_ble_eq_true rfl) dX0_reckonBehind_77 ?_
    obtain ⟨h13, hf⟩ := sat_chk hf
    obtain ⟨σ13, e13, hf⟩ := sat_nm hf
    refine c_iast C h13 dX0_reckonBehind_80 (g_mem2 e13 ?_)
    refine g_iinc B (v5_3 + (-1)) [(0, .ref (kAd K k0)), (1, .ref (kAd K k1a)), (3, .int ((v5_3 + (-1))))] dX0_reckonBehind_81 2 rfl rfl (by decide) [1, 2, 0] rfl ?_
    refine g_goto (tgt := 23) B dX0_reckonBehind_84 (by decide) ?_
    have hf := sum_l (sat_some hf)
    exact g_sub hf [0, 1, 2] rfl
theorem c_X0_reckonBehind (l : Launch) (D : va_G) (Ad : Nat → Nat) (cI cP cII : ClassId) {σ : Mm} {k0 : Nat} {k1a : Nat} {τ : Mm} (h : f_X0_reckonBehind σ k0 k1a = some τ) : CtV l D (tysC cI cP cII) (wdC Ad cI cP cII) StC yX0_reckonBehind cX0_reckonBehind 4 3 σ [.ref (Ad k0), .ref (Ad k1a)] τ := by
  refine metV (Ad := Ad) (cI := cI) (cP := cP) (cII := cII) (by decide) (Nat.le_of_ble_eq_true rfl) (wdG_ok _ _ _) stOK_C rfl (fun K C G hR => ?_)
  have e : kAd K = Ad := G.2.2.2.2.2.1
  have C2 := cC_of C G
  have h9 := w_X0_reckonBehind C2 σ k0 k1a ⟨_, h, by rw [hR]; exact ⟨rfl, rfl⟩⟩
  rw [e] at h9
  exact h9
theorem ck_X0_reckonBehind {K : Kx} {cc : ByteArray} {own : String} {nL d : Nat} {rty : Option FieldType} (C : CxC K cc own nL d rty) {σ : Mm} {k0 : Nat} {k1a : Nat} {τ : Mm} (h : f_X0_reckonBehind σ k0 k1a = some τ) : CtV (kl K) (kD K) (ktys K) (kwf K) (kSt K) yX0_reckonBehind cX0_reckonBehind 4 3 σ [.ref (kAd K k0), .ref (kAd K k1a)] τ := cC_eq C (P := fun l D tys wf St => CtV l D tys wf St yX0_reckonBehind cX0_reckonBehind 4 3 σ [.ref (kAd K k0), .ref (kAd K k1a)] τ) (c_X0_reckonBehind _ _ _ _ _ _ h)
