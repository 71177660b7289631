def f_X5_strokes (σ : Mm) (p1 : Int32) (p2 : Int32) (p3 : Int32) : Option (Mm × Int32) :=
  bn1 (f_X5_partAt σ p1) (fun σ1 r1 => onul r1 (some (σ1, (-1))) (fun k1 => bn1 (f_X5_isOutside σ1 p2 0 1) (fun σ2 r2 => (if r2 = 0 then bn1 (f_X5_isOutside σ2 p3 0 2) (fun σ4 r4 => (if r4 = 0 then chk (kdC k1 == 2) (bn1 (f_X3_bowingFrom σ4 k1 p2) (fun σ6 r6 => onul r6 (none) (fun k6 => chk (kdC k6 == 0) (bn0 (f_X0_work σ6 k6 k1 p2) (fun σ8 => bn1 (f_X0_isThere σ8 k6) (fun σ10 r10 => (if r10 = 0 then some (σ10, (-3)) else (if p3 = 0 then bn1 (f_X0_countHooks σ10 k6 k1) (fun σ16 r16 => some (σ16, r16)) else bn1 (f_X0_countParted σ10 k6 k1) (fun σ13 r13 => (if p3 = 1 then some (σ13, r13) else bn1 (f_X3_countSlurred σ13 k1) (fun σ15 r15 => some (σ15, ((r13 + (σ13 k1 0)) - r15))))))))))))) else some (σ4, (-1)))) else some (σ2, (-1))))))
set_option maxHeartbeats 4000000 in
set_option maxRecDepth 100000 in
theorem w_X5_strokes {K : Kx} (C : CxC K cX5_strokes RX5 7 5 (some .int)) (σ : Mm) (p1 : Int32) (p2 : Int32) (p3 : Int32) (hf : Sat (f_X5_strokes σ p1 p2 p3) (fun o => kRt K (some (.int o.2)) o.1)) : Gj K σ 0 [(0, .ref (kAd K 0)), (1, .int p1), (2, .int p2), (3, .int p3)] [] := by
  unfold f_X5_strokes at hf
  have B := C.1
  refine g_aload_n B dX5_strokes_0 rfl 0 rfl ?_
  refine g_iload_n B dX5_strokes_1 rfl 1 rfl ?_
  obtain ⟨σ1, r1, h1, hf⟩ := sat_ca1 hf
  refine g_cVA (rest := []) B (ck_X5_partAt C h1) mo_X5_partAt wm_RX5_35 (by decide) (cC_o3 C) rfl rfl rfl (Nat.le_of_ble_eq_true rfl) dX5_strokes_2 ?_
  cases r1 with
  | none =>
    have hf := sat_on0 hf
    show Gj K σ1 5 [(0, .ref (kAd K 0)), (1, .int p1), (2, .int p2), (3, .int p3)] [.null]
    refine g_astoreN B [(0, .ref (kAd K 0)), (1, .int p1), (2, .int p2), (3, .int p3), (4, .null)] dX5_strokes_5 (by decide) [1, 2, 3, 4, 0] rfl ?_
    refine g_aloadN B dX5_strokes_7 4 rfl ?_
    refine g_ifnullN (tgt := 30) B dX5_strokes_9 (by decide) ?_
    refine g_iconst (v := (-1)) B dX5_strokes_30 (by decide) ?_
    have hf := sat_some hf
    exact g_iret B rfl rfl dX5_strokes_31 hf
  | some k1 =>
    have hf := sat_on1 hf
    show Gj K σ1 5 [(0, .ref (kAd K 0)), (1, .int p1), (2, .int p2), (3, .int p3)] [.ref (kAd K k1)]
    refine g_astore B [(0, .ref (kAd K 0)), (1, .int p1), (2, .int p2), (3, .int p3), (4, .ref (kAd K k1))] dX5_strokes_5 (by decide) [1, 2, 3, 4, 0] rfl ?_
    refine g_aload B dX5_strokes_7 4 rfl ?_
    refine g_ifnull B dX5_strokes_9 ?_
    refine g_iload_n B dX5_strokes_12 rfl 2 rfl ?_
    refine g_iconst (v := 0) B dX5_strokes_13 (by decide) ?_
    refine g_iconst (v := 1) B dX5_strokes_14 (by decide) ?_
    obtain ⟨σ2, r2, h2, hf⟩ := sat_ca1 hf
    refine g_cSI (rest := []) B (ck_X5_isOutside C h2) mo_X5_isOutside wm_RX5_27 (by decide) rfl rfl (Nat.le_of_ble_eq_true rfl) dX5_strokes_15 ?_
    refine g_if_ne (tgt := 30) B dX5_strokes_18 (by decide) (fun c3 => ?_) (fun c3 => ?_)
    · have hf := sat_f hf c3
      refine g_iconst (v := (-1)) B dX5_strokes_30 (by decide) ?_
      have hf := sat_some hf
      exact g_iret B rfl rfl dX5_strokes_31 hf
    · have hf := sat_t hf c3
      refine g_iload_n B dX5_strokes_21 rfl 3 rfl ?_
      refine g_iconst (v := 0) B dX5_strokes_22 (by decide) ?_
      refine g_iconst (v := 2) B dX5_strokes_23 (by decide) ?_
      obtain ⟨σ4, r4, h4, hf⟩ := sat_ca1 hf
      refine g_cSI (rest := []) B (ck_X5_isOutside C h4) mo_X5_isOutside wm_RX5_27 (by decide) rfl rfl (Nat.le_of_ble_eq_true rfl) dX5_strokes_24 ?_
      refine g_if_eq (tgt := 32) B dX5_strokes_27 (by decide) (fun c5 => ?_) (fun c5 => ?_)
      · have hf := sat_t hf c5
        refine g_aload B dX5_strokes_32 4 rfl ?_
        refine g_iload_n B dX5_strokes_34 rfl 2 rfl ?_
        obtain ⟨h7, hf⟩ := sat_chk hf
        obtain ⟨σ6, r6, h6, hf⟩ := sat_ca1 hf
        refine g_cVA (rest := []) B (ck_X3_bowingFrom C h6) mo_X3_bowingFrom wm_RX5_121 (by decide) (cC_o2 C (eq_of_beq h7)) rfl rfl rfl (Nat.le_of_ble_eq_true rfl) dX5_strokes_35 ?_
        cases r6 with
        | none =>
          exact (sat_none (sat_on0 hf)).elim
        | some k6 =>
          have hf := sat_on1 hf
          show Gj K σ6 38 [(0, .ref (kAd K 0)), (1, .int p1), (2, .int p2), (3, .int p3), (4, .ref (kAd K k1))] [.ref (kAd K k6)]
          refine g_astore B [(0, .ref (kAd K 0)), (1, .int p1), (2, .int p2), (3, .int p3), (4, .ref (kAd K k1)), (5, .ref (kAd K k6))] dX5_strokes_38 (by decide) [1, 2, 3, 4, 5, 0] rfl ?_
          refine g_aload B dX5_strokes_40 5 rfl ?_
          refine g_aload B dX5_strokes_42 4 rfl ?_
          refine g_iload_n B dX5_strokes_44 rfl 2 rfl ?_
          obtain ⟨h9, hf⟩ := sat_chk hf
          obtain ⟨σ8, h8, hf⟩ := sat_ca0 hf
          refine g_cVV (rest := []) B (ck_X0_work C h8) mo_X0_work wm_RX5_125 (by decide) (cC_o0 C (eq_of_beq h9)) rfl rfl rfl (Nat.le_of_ble_eq_true rfl) dX5_strokes_45 ?_
          refine g_aload B dX5_strokes_48 5 rfl ?_
          obtain ⟨σ10, r10, h10, hf⟩ := sat_ca1 hf
          refine g_cVI (rest := []) B (ck_X0_isThere C h10) mo_X0_isThere wm_RX5_131 (by decide) (cC_o0 C (eq_of_beq h9)) rfl rfl rfl (Nat.le_of_ble_eq_true rfl) dX5_strokes_50 ?_
          refine g_if_ne (tgt := 59) B dX5_strokes_53 (by decide) (fun c11 => ?_) (fun c11 => ?_)
          · have hf := sat_f hf c11
            refine g_iload_n B dX5_strokes_59 rfl 3 rfl ?_
            refine g_if_ne (tgt := 71) B dX5_strokes_60 (by decide) (fun c12 => ?_) (fun c12 => ?_)
            · have hf := sat_f hf c12
              refine g_aload B dX5_strokes_71 5 rfl ?_
              refine g_aload B dX5_strokes_73 4 rfl ?_
              obtain ⟨σ13, r13, h13, hf⟩ := sat_ca1 hf
              refine g_cVI (rest := []) B (ck_X0_countParted C h13) mo_X0_countParted wm_RX5_145 (by decide) (cC_o0 C (eq_of_beq h9)) rfl rfl rfl (Nat.le_of_ble_eq_true rfl) dX5_strokes_75 ?_
              refine g_istore B [(0, .ref (kAd K 0)), (1, .int p1), (2, .int p2), (3, .int p3), (4, .ref (kAd K k1)), (5, .ref (kAd K k6)), (6, .int r13)] dX5_strokes_78 (by decide) [1, 2, 3, 4, 5, 6, 0] rfl ?_
              refine g_iload_n B dX5_strokes_80 rfl 3 rfl ?_
              refine g_iconst (v := 1) B dX5_strokes_81 (by decide) ?_
              refine g_icmp_ne (tgt := 90) B dX5_strokes_82 (by decide) (fun c14 => ?_) (fun c14 => ?_)
              · have hf := sat_f hf c14
                refine g_iload B dX5_strokes_90 6 rfl ?_
                refine g_aload B dX5_strokes_92 4 rfl ?_
                refine c_get_P_count C (eq_of_beq h7) wf_RX5_39 dX5_strokes_94 ?_
                refine g_iadd B dX5_strokes_97 ?_
                refine g_aload B dX5_strokes_98 4 rfl ?_
                obtain ⟨σ15, r15, h15, hf⟩ := sat_ca1 hf
                refine g_cVI (rest := [.int ((r13 + (σ13 k1 0)))]) B (ck_X3_countSlurred C h15) mo_X3_countSlurred wm_RX5_148 (by decide) (cC_o2 C (eq_of_beq h7)) rfl rfl rfl (Nat.le_of_ble_eq_true rfl) dX5_strokes_100 ?_
                refine g_isub B dX5_strokes_103 ?_
                have hf := sat_some hf
                exact g_iret B rfl rfl dX5_strokes_104 hf
              · have hf := sat_t hf c14
                refine g_iload B dX5_strokes_85 6 rfl ?_
                refine g_goto (tgt := 104) B dX5_strokes_87 (by decide) ?_
                have hf := sat_some hf
                exact g_iret B rfl rfl dX5_strokes_104 hf
            · have hf := sat_t hf c12
              refine g_aload B dX5_strokes_63 5 rfl ?_
              refine g_aload B dX5_strokes_65 4 rfl ?_
              obtain ⟨σ16, r16, h16, hf⟩ := sat_ca1 hf
              refine g_cVI (rest := []) B (ck_X0_countHooks C h16) mo_X0_countHooks wm_RX5_141 (by decide) (cC_o0 C (eq_of_beq h9)) rfl rfl rfl (Nat.le_of_ble_eq_true rfl) dX5_strokes_67 ?_
              have hf := sat_some hf
              exact g_iret B rfl rfl dX5_strokes_70 hf
          · have hf := sat_t hf c11
            refine g_bipush (v := (-3)) B dX5_strokes_56 (by decide) ?_
            have hf := sat_some hf
            exact g_iret B rfl rfl dX5_strokes_58 hf
      · have hf := sat_f hf c5
        refine g_iconst (v := (-1)) B dX5_strokes_30 (by decide) ?_
        have hf := sat_some hf
        exact g_iret B rfl rfl dX5_strokes_31 hf
theorem c_X5_strokes (l : Launch) (D : va_G) (Ad : Nat → Nat) (cI cP cII : ClassId) {σ : Mm} {p1 : Int32} {p2 : Int32} {p3 : Int32} {τ : Mm} {r : Int32} (h : f_X5_strokes σ p1 p2 p3 = some (τ, r)) : CtI l D (tysC cI cP cII) (wdC Ad cI cP cII) StC yX5_strokes cX5_strokes 7 .int 5 σ [.ref (Ad 0), .int p1, .int p2, .int p3] (τ, r) := by
  refine metI (Ad := Ad) (cI := cI) (cP := cP) (cII := cII) (by decide) (Nat.le_of_ble_eq_true rfl) (wdG_ok _ _ _) stOK_C rfl (fun K C G hR => ?_)
  have e : kAd K = Ad := G.2.2.2.2.2.1
  have C2 := cC_of C G
  have h9 := w_X5_strokes C2 σ p1 p2 p3 ⟨_, h, by rw [hR]; exact ⟨rfl, rfl⟩⟩
  rw [e] at h9
  exact h9
theorem ck_X5_strokes {K : Kx} {cc : ByteArray} {own : String} {nL d : Nat} {rty : Option FieldType} (C : CxC K cc own nL d rty) {σ : Mm} {p1 : Int32} {p2 : Int32} {p3 : Int32} {τ : Mm} {r : Int32} (h : f_X5_strokes σ p1 p2 p3 = some (τ, r)) : CtI (kl K) (kD K) (ktys K) (kwf K) (kSt K) yX5_strokes cX5_strokes 7 .int 5 σ [.ref (kAd K 0), .int p1, .int p2, .int p3] (τ, r) := cC_eq C (P := fun l D tys wf St => CtI l D tys wf St yX5_strokes cX5_strokes 7 .int 5 σ [.ref (kAd K 0), .int p1, .int p2, .int p3] (τ, r)) (c_X5_strokes _ _ _ _ _ _ h)
def f_X5_areAlike (σ : Mm) (k0a : Nat) (p1 : Int32) (k2a : Nat) (p3 : Int32) : Option (Mm × Int32) :=
  chk (kdC k0a == 2) (chk (inC (k0a + 4) p1) (chk (kdC k2a == 2) (chk (inC (k2a + 4) p3) ((if (σ (k0a + 4) p1.toNatClampNeg) = (σ (k2a + 4) p3.toNatClampNeg) then chk (inC (k0a + 3) p1) (chk (inC (k2a + 3) p3) ((if (σ (k0a + 3) p1.toNatClampNeg) = (σ (k2a + 3) p3.toNatClampNeg) then some (σ, 1) else some (σ, 0)))) else some (σ, 0))))))
set_option maxHeartbeats 4000000 in
set_option maxRecDepth 100000 in
theorem w_X5_areAlike {K : Kx} (C : CxC K cX5_areAlike RX5 4 0 (some .boolean)) (σ : Mm) (k0a : Nat) (p1 : Int32) (k2a : Nat) (p3 : Int32) (hf : Sat (f_X5_areAlike σ k0a p1 k2a p3) (fun o => kRt K (some (.int o.2)) o.1)) : Gj K σ 0 [(0, .ref (kAd K k0a)), (1, .int p1), (2, .ref (kAd K k2a)), (3, .int p3)] [] := by
  unfold f_X5_areAlike at hf
  have B := C.1
  refine g_aload_n B dX5_areAlike_0 rfl 0 rfl ?_
  obtain ⟨h1, hf⟩ := sat_chk hf
  refine c_get_P_onsets C (eq_of_beq h1) wf_RX5_71 dX5_areAlike_1 ?_
  refine g_iload_n B dX5_areAlike_4 rfl 1 rfl ?_
  obtain ⟨h2, hf⟩ := sat_chk hf
  refine c_iald C h2 dX5_areAlike_5 ?_
  refine g_aload_n B dX5_areAlike_6 rfl 2 rfl ?_
  obtain ⟨h3, hf⟩ := sat_chk hf
  refine c_get_P_onsets C (eq_of_beq h3) wf_RX5_71 dX5_areAlike_7 ?_
  refine g_iload_n B dX5_areAlike_10 rfl 3 rfl ?_
  obtain ⟨h4, hf⟩ := sat_chk hf
  refine c_iald C h4 dX5_areAlike_11 ?_
  refine g_icmp_ne (tgt := 34) B dX5_areAlike_12 (by decide) (fun c5 => ?_) (fun c5 => ?_)
  · have hf := sat_f hf c5
    refine g_iconst (v := 0) B dX5_areAlike_34 (by decide) ?_
    have hf := sat_some hf
    exact g_iret B rfl rfl dX5_areAlike_35 hf
  · have hf := sat_t hf c5
    refine g_aload_n B dX5_areAlike_15 rfl 0 rfl ?_
    refine c_get_P_lengths C (eq_of_beq h1) wf_RX5_64 dX5_areAlike_16 ?_
    refine g_iload_n B dX5_areAlike_19 rfl 1 rfl ?_
    obtain ⟨h6, hf⟩ := sat_chk hf
    refine c_iald C h6 dX5_areAlike_20 ?_
    refine g_aload_n B dX5_areAlike_21 rfl 2 rfl ?_
    refine c_get_P_lengths C (eq_of_beq h3) wf_RX5_64 dX5_areAlike_22 ?_
    refine g_iload_n B dX5_areAlike_25 rfl 3 rfl ?_
    obtain ⟨h7, hf⟩ := sat_chk hf
    refine c_iald C h7 dX5_areAlike_26 ?_
    refine g_icmp_ne (tgt := 34) B dX5_areAlike_27 (by decide) (fun c8 => ?_) (fun c8 => ?_)
    · have hf := sat_f hf c8
      refine g_iconst (v := 0) B dX5_areAlike_34 (by decide) ?_
      have hf := sat_some hf
      exact g_iret B rfl rfl dX5_areAlike_35 hf
    · have hf := sat_t hf c8
      refine g_iconst (v := 1) B dX5_areAlike_30 (by decide) ?_
      refine g_goto (tgt := 35) B dX5_areAlike_31 (by decide) ?_
      have hf := sat_some hf
      exact g_iret B rfl rfl dX5_areAlike_35 hf
theorem c_X5_areAlike (l : Launch) (D : va_G) (Ad : Nat → Nat) (cI cP cII : ClassId) {σ : Mm} {k0a : Nat} {p1 : Int32} {k2a : Nat} {p3 : Int32} {τ : Mm} {r : Int32} (h : f_X5_areAlike σ k0a p1 k2a p3 = some (τ, r)) : CtI l D (tysC cI cP cII) (wdC Ad cI cP cII) StC yX5_areAlike cX5_areAlike 4 .boolean 0 σ [.ref (Ad k0a), .int p1, .ref (Ad k2a), .int p3] (τ, r) := by
  refine metI (Ad := Ad) (cI := cI) (cP := cP) (cII := cII) (by decide) (Nat.le_of_ble_eq_true rfl) (wdG_ok _ _ _) stOK_C rfl (fun K C G hR => ?_)
  have e : kAd K = Ad := G.2.2.2.2.2.1
  have C2 := cC_of C G
  have h9 := w_X5_areAlike C2 σ k0a p1 k2a p3 ⟨_, h, by rw [hR]; exact ⟨rfl, rfl⟩⟩
  rw [e] at h9
  exact h9
theorem ck_X5_areAlike {K : Kx} {cc : ByteArray} {own : String} {nL d : Nat} {rty : Option FieldType} (C : CxC K cc own nL d rty) {σ : Mm} {k0a : Nat} {p1 : Int32} {k2a : Nat} {p3 : Int32} {τ : Mm} {r : Int32} (h : f_X5_areAlike σ k0a p1 k2a p3 = some (τ, r)) : CtI (kl K) (kD K) (ktys K) (kwf K) (kSt K) yX5_areAlike cX5_areAlike 4 .boolean 0 σ [.ref (kAd K k0a), .int p1, .ref (kAd K k2a), .int p3] (τ, r) := cC_eq C (P := fun l D tys wf St => CtI l D tys wf St yX5_areAlike cX5_areAlike 4 .boolean 0 σ [.ref (kAd K k0a), .int p1, .ref (kAd K k2a), .int p3] (τ, r)) (c_X5_areAlike _ _ _ _ _ _ h)
def f_X5_alike (σ : Mm) (p1 : Int32) (p2 : Int32) (p3 : Int32) (p4 : Int32) : Option (Mm × Int32) :=
  bn1 (f_X5_partWith σ p1 p2) (fun σ1 r1 => onul r1 (bn1 (f_X5_partWith σ1 p3 p4) (fun σ2 r2 => onul r2 (some (σ2, (-1))) (fun k2 => some (σ2, (-1))))) (fun k1 => bn1 (f_X5_partWith σ1 p3 p4) (fun σ3 r3 => onul r3 (some (σ3, (-1))) (fun k3 => (if p1 = p3 then some (σ3, (-1)) else bn1 (f_X5_areAlike σ3 k1 p2 k3 p4) (fun σ5 r5 => (if r5 = 0 then some (σ5, 0) else some (σ5, 1))))))))
set_option maxHeartbeats 4000000 in
set_option maxRecDepth 100000 in
theorem w_X5_alike {K : Kx} (C : CxC K cX5_alike RX5 7 3 (some .int)) (σ : Mm) (p1 : Int32) (p2 : Int32) (p3 : Int32) (p4 : Int32) (hf : Sat (f_X5_alike σ p1 p2 p3 p4) (fun o => kRt K (some (.int o.2)) o.1)) : Gj K σ 0 [(0, .ref (kAd K 0)), (1, .int p1), (2, .int p2), (3, .int p3), (4, .int p4)] [] := by
  unfold f_X5_alike at hf
  have B := C.1
  refine g_aload_n B dX5_alike_0 rfl 0 rfl ?_
  refine g_iload_n B dX5_alike_1 rfl 1 rfl ?_
  refine g_iload_n B dX5_alike_2 rfl 2 rfl ?_
  obtain ⟨σ1, r1, h1, hf⟩ := sat_ca1 hf
  refine g_cVA (rest := []) B (ck_X5_partWith C h1) mo_X5_partWith wm_RX5_51 (by decide) (cC_o3 C) rfl rfl rfl (Nat.le_of_ble_eq_true rfl) dX5_alike_3 ?_
  cases r1 with
  | none =>
    have hf := sat_on0 hf
    show Gj K σ1 6 [(0, .ref (kAd K 0)), (1, .int p1), (2, .int p2), (3, .int p3), (4, .int p4)] [.null]
    refine g_astoreN B [(0, .ref (kAd K 0)), (1, .int p1), (2, .int p2), (3, .int p3), (4, .int p4), (5, .null)] dX5_alike_6 (by decide) [1, 2, 3, 4, 5, 0] rfl ?_
    refine g_aload_n B dX5_alike_8 rfl 0 rfl ?_
    refine g_iload_n B dX5_alike_9 rfl 3 rfl ?_
    refine g_iload B dX5_alike_10 4 rfl ?_
    obtain ⟨σ2, r2, h2, hf⟩ := sat_ca1 hf
    refine g_cVA (rest := []) B (ck_X5_partWith C h2) mo_X5_partWith wm_RX5_51 (by decide) (cC_o3 C) rfl rfl rfl (Nat.le_of_ble_eq_true rfl) dX5_alike_12 ?_
    cases r2 with
    | none =>
      have hf := sat_on0 hf
      show Gj K σ2 15 [(0, .ref (kAd K 0)), (1, .int p1), (2, .int p2), (3, .int p3), (4, .int p4), (5, .null)] [.null]
      refine g_astoreN B [(0, .ref (kAd K 0)), (1, .int p1), (2, .int p2), (3, .int p3), (4, .int p4), (5, .null), (6, .null)] dX5_alike_15 (by decide) [1, 2, 3, 4, 5, 6, 0] rfl ?_
      refine g_aloadN B dX5_alike_17 5 rfl ?_
      refine g_ifnullN (tgt := 32) B dX5_alike_19 (by decide) ?_
      refine g_iconst (v := (-1)) B dX5_alike_32 (by decide) ?_
      have hf := sat_some hf
      exact g_iret B rfl rfl dX5_alike_33 hf
    | some k2 =>
      have hf := sat_on1 hf
      show Gj K σ2 15 [(0, .ref (kAd K 0)), (1, .int p1), (2, .int p2), (3, .int p3), (4, .int p4), (5, .null)] [.ref (kAd K k2)]
      refine g_astore B [(0, .ref (kAd K 0)), (1, .int p1), (2, .int p2), (3, .int p3), (4, .int p4), (5, .null), (6, .ref (kAd K k2))] dX5_alike_15 (by decide) [1, 2, 3, 4, 5, 6, 0] rfl ?_
      refine g_aloadN B dX5_alike_17 5 rfl ?_
      refine g_ifnullN (tgt := 32) B dX5_alike_19 (by decide) ?_
      refine g_iconst (v := (-1)) B dX5_alike_32 (by decide) ?_
      have hf := sat_some hf
      exact g_iret B rfl rfl dX5_alike_33 hf
  | some k1 =>
    have hf := sat_on1 hf
    show Gj K σ1 6 [(0, .ref (kAd K 0)), (1, .int p1), (2, .int p2), (3, .int p3), (4, .int p4)] [.ref (kAd K k1)]
    refine g_astore B [(0, .ref (kAd K 0)), (1, .int p1), (2, .int p2), (3, .int p3), (4, .int p4), (5, .ref (kAd K k1))] dX5_alike_6 (by decide) [1, 2, 3, 4, 5, 0] rfl ?_
    refine g_aload_n B dX5_alike_8 rfl 0 rfl ?_
    refine g_iload_n B dX5_alike_9 rfl 3 rfl ?_
    refine g_iload B dX5_alike_10 4 rfl ?_
    obtain ⟨σ3, r3, h3, hf⟩ := sat_ca1 hf
    refine g_cVA (rest := []) B (ck_X5_partWith C h3) mo_X5_partWith wm_RX5_51 (by decide) (cC_o3 C) rfl rfl rfl (Nat.le_of_ble_eq_true rfl) dX5_alike_12 ?_
    cases r3 with
    | none =>
      have hf := sat_on0 hf
      show Gj K σ3 15 [(0, .ref (kAd K 0)), (1, .int p1), (2, .int p2), (3, .int p3), (4, .int p4), (5, .ref (kAd K k1))] [.null]
      refine g_astoreN B [(0, .ref (kAd K 0)), (1, .int p1), (2, .int p2), (3, .int p3), (4, .int p4), (5, .ref (kAd K k1)), (6, .null)] dX5_alike_15 (by decide) [1, 2, 3, 4, 5, 6, 0] rfl ?_
      refine g_aload B dX5_alike_17 5 rfl ?_
      refine g_ifnull B dX5_alike_19 ?_
      refine g_aloadN B dX5_alike_22 6 rfl ?_
      refine g_ifnullN (tgt := 32) B dX5_alike_24 (by decide) ?_
      refine g_iconst (v := (-1)) B dX5_alike_32 (by decide) ?_
      have hf := sat_some hf
      exact g_iret B rfl rfl dX5_alike_33 hf
    | some k3 =>
      have hf := sat_on1 hf
      show Gj K σ3 15 [(0, .ref (kAd K 0)), (1, .int p1), (2, .int p2), (3, .int p3), (4, .int p4), (5, .ref (kAd K k1))] [.ref (kAd K k3)]
      refine g_astore B [(0, .ref (kAd K 0)), (1, .int p1), (2, .int p2), (3, .int p3), (4, .int p4), (5, .ref (kAd K k1)), (6, .ref (kAd K k3))] dX5_alike_15 (by decide) [1, 2, 3, 4, 5, 6, 0] rfl ?_
      refine g_aload B dX5_alike_17 5 rfl ?_
      refine g_ifnull B dX5_alike_19 ?_
      refine g_aload B dX5_alike_22 6 rfl ?_
      refine g_ifnull B dX5_alike_24 ?_
      refine g_iload_n B dX5_alike_27 rfl 1 rfl ?_
      refine g_iload_n B dX5_alike_28 rfl 3 rfl ?_
      refine g_icmp_ne (tgt := 34) B dX5_alike_29 (by decide) (fun c4 => ?_) (fun c4 => ?_)
      · have hf := sat_f hf c4
        refine g_aload B dX5_alike_34 5 rfl ?_
        refine g_iload_n B dX5_alike_36 rfl 2 rfl ?_
        refine g_aload B dX5_alike_37 6 rfl ?_
        refine g_iload B dX5_alike_39 4 rfl ?_
        obtain ⟨σ5, r5, h5, hf⟩ := sat_ca1 hf
        refine g_cSI (rest := []) B (ck_X5_areAlike C h5) mo_X5_areAlike wm_RX5_152 (by decide) rfl rfl (Nat.le_of_ble_eq_true rfl) dX5_alike_41 ?_
        refine g_if_eq (tgt := 51) B dX5_alike_44 (by decide) (fun c6 => ?_) (fun c6 => ?_)
        · have hf := sat_t hf c6
          refine g_iconst (v := 0) B dX5_alike_51 (by decide) ?_
          have hf := sat_some hf
          exact g_iret B rfl rfl dX5_alike_52 hf
        · have hf := sat_f hf c6
          refine g_iconst (v := 1) B dX5_alike_47 (by decide) ?_
          refine g_goto (tgt := 52) B dX5_alike_48 (by decide) ?_
          have hf := sat_some hf
          exact g_iret B rfl rfl dX5_alike_52 hf
      · have hf := sat_t hf c4
        refine g_iconst (v := (-1)) B dX5_alike_32 (by decide) ?_
        have hf := sat_some hf
        exact g_iret B rfl rfl dX5_alike_33 hf
theorem c_X5_alike (l : Launch) (D : va_G) (Ad : Nat → Nat) (cI cP cII : ClassId) {σ : Mm} {p1 : Int32} {p2 : Int32} {p3 : Int32} {p4 : Int32} {τ : Mm} {r : Int32} (h : f_X5_alike σ p1 p2 p3 p4 = some (τ, r)) : CtI l D (tysC cI cP cII) (wdC Ad cI cP cII) StC yX5_alike cX5_alike 7 .int 3 σ [.ref (Ad 0), .int p1, .int p2, .int p3, .int p4] (τ, r) := by
  refine metI (Ad := Ad) (cI := cI) (cP := cP) (cII := cII) (by decide) (Nat.le_of_ble_eq_true rfl) (wdG_ok _ _ _) stOK_C rfl (fun K C G hR => ?_)
  have e : kAd K = Ad := G.2.2.2.2.2.1
  have C2 := cC_of C G
  have h9 := w_X5_alike C2 σ p1 p2 p3 p4 ⟨_, h, by rw [hR]; exact ⟨rfl, rfl⟩⟩
  rw [e] at h9
  exact h9
theorem ck_X5_alike {K : Kx} {cc : ByteArray} {own : String} {nL d : Nat} {rty : Option FieldType} (C : CxC K cc own nL d rty) {σ : Mm} {p1 : Int32} {p2 : Int32} {p3 : Int32} {p4 : Int32} {τ : Mm} {r : Int32} (h : f_X5_alike σ p1 p2 p3 p4 = some (τ, r)) : CtI (kl K) (kD K) (ktys K) (kwf K) (kSt K) yX5_alike cX5_alike 7 .int 3 σ [.ref (kAd K 0), .int p1, .int p2, .int p3, .int p4] (τ, r) := cC_eq C (P := fun l D tys wf St => CtI l D tys wf St yX5_alike cX5_alike 7 .int 3 σ [.ref (kAd K 0), .int p1, .int p2, .int p3, .int p4] (τ, r)) (c_X5_alike _ _ _ _ _ _ h)
def f_X5_countUnlikeOfTwo_s18 (k2a : Nat) (k0a : Nat) (v1_5 : Int32) (k1a : Nat) (k3a : Nat) (σ5 : Mm) (v5_4 : Int32) (v5_6 : Int32) : Option ((Mm × Int32 × Int32) ⊕ (Mm × Int32)) :=
  chk (kdC k2a == 2) ((if (σ5 k2a 0) ≤ v5_6 then some (.inr (σ5, v5_4)) else bn1 (f_X5_areAlike σ5 k0a v1_5 k2a v5_6) (fun σ9 r9 => (if r9 = 0 then some (.inl (σ9, v5_4, (v5_6 + 1))) else chk (inC k1a v1_5) (chk (inC k3a v5_6) ((if (σ9 k1a v1_5.toNatClampNeg) = (σ9 k3a v5_6.toNatClampNeg) then some (.inl (σ9, v5_4, (v5_6 + 1))) else some (.inl (σ9, (v5_4 + 1), (v5_6 + 1))))))))))
def f_X5_countUnlikeOfTwo_s6 (k0a : Nat) (k2a : Nat) (k1a : Nat) (k3a : Nat) (σ1 : Mm) (v1_4 : Int32) (v1_5 : Int32) : Option ((Mm × Int32 × Int32) ⊕ (Mm × Int32)) :=
  chk (kdC k0a == 2) ((if (σ1 k0a 0) ≤ v1_5 then some (.inr (σ1, v1_4)) else bn1 (lq2 (f_X5_countUnlikeOfTwo_s18 k2a k0a v1_5 k1a k3a) fu σ1 v1_4 0) (fun σ6 v6_4 => some (.inl (σ6, v6_4, (v1_5 + 1))))))
def f_X5_countUnlikeOfTwo (σ : Mm) (k0a : Nat) (k1a : Nat) (k2a : Nat) (k3a : Nat) : Option (Mm × Int32) :=
  bn1 (lq2 (f_X5_countUnlikeOfTwo_s6 k0a k2a k1a k3a) fu σ 0 0) (fun σ2 v2_4 => some (σ2, v2_4))
set_option maxHeartbeats 4000000 in
set_option maxRecDepth 100000 in
theorem w_X5_countUnlikeOfTwo {K : Kx} (C : CxC K cX5_countUnlikeOfTwo RX5 7 1 (some .int)) (σ : Mm) (k0a : Nat) (k1a : Nat) (k2a : Nat) (k3a : Nat) (hf : Sat (f_X5_countUnlikeOfTwo σ k0a k1a k2a k3a) (fun o => kRt K (some (.int o.2)) o.1)) : Gj K σ 0 [(0, .ref (kAd K k0a)), (1, .ref (kAd K k1a)), (2, .ref (kAd K k2a)), (3, .ref (kAd K k3a))] [] := by
  unfold f_X5_countUnlikeOfTwo at hf
  have B := C.1
  refine g_iconst (v := 0) B dX5_countUnlikeOfTwo_0 (by decide) ?_
  refine g_istore B [(0, .ref (kAd K k0a)), (1, .ref (kAd K k1a)), (2, .ref (kAd K k2a)), (3, .ref (kAd K k3a)), (4, .int 0)] dX5_countUnlikeOfTwo_1 (by decide) [1, 2, 3, 4, 0] rfl ?_
  refine g_iconst (v := 0) B dX5_countUnlikeOfTwo_3 (by decide) ?_
  refine g_istore B [(0, .ref (kAd K k0a)), (1, .ref (kAd K k1a)), (2, .ref (kAd K k2a)), (3, .ref (kAd K k3a)), (4, .int 0), (5, .int 0)] dX5_countUnlikeOfTwo_4 (by decide) [1, 2, 3, 4, 5, 0] rfl ?_
  have hf := sat_cu1 (G := fun σ2 v2_4 => Gj K σ2 65 [(4, .int v2_4)] []) hf (by
    intro σ2 v2_4 hf
    refine g_iload B dX5_countUnlikeOfTwo_65 0 rfl ?_
    have hf := sat_some hf
    exact g_iret B rfl rfl dX5_countUnlikeOfTwo_67 hf)
  refine lqr2 (Gh := fun σ1 v1_4 v1_5 => Gj K σ1 6 [(0, .ref (kAd K k0a)), (1, .ref (kAd K k1a)), (2, .ref (kAd K k2a)), (3, .ref (kAd K k3a)), (4, .int v1_4), (5, .int v1_5)] []) ?_ fu σ 0 0 hf
  intro σ1 v1_4 v1_5 hf
  unfold f_X5_countUnlikeOfTwo_s6 at hf
  refine g_iload B dX5_countUnlikeOfTwo_6 5 rfl ?_
  refine g_aload_n B dX5_countUnlikeOfTwo_8 rfl 0 rfl ?_
  obtain ⟨h3, hf⟩ := sat_chk hf
  refine c_get_P_count C (eq_of_beq h3) wf_RX5_39 dX5_countUnlikeOfTwo_9 ?_
  refine g_icmp_ge (tgt := 65) B dX5_countUnlikeOfTwo_12 (by decide) (fun c4 => ?_) (fun c4 => ?_)
  · have hf := sat_t hf c4
    have hf := sum_r (sat_some hf)
    exact g_sub hf [4] rfl
  · have hf := sat_f hf c4
    refine g_iconst (v := 0) B dX5_countUnlikeOfTwo_15 (by decide) ?_
    refine g_istore B [(0, .ref (kAd K k0a)), (1, .ref (kAd K k1a)), (2, .ref (kAd K k2a)), (3, .ref (kAd K k3a)), (4, .int v1_4), (5, .int v1_5), (6, .int 0)] dX5_countUnlikeOfTwo_16 (by decide) [1, 2, 3, 4, 5, 6, 0] rfl ?_
    have hf := sat_cu1 (G := fun σ6 v6_4 => Gj K σ6 59 [(0, .ref (kAd K k0a)), (1, .ref (kAd K k1a)), (2, .ref (kAd K k2a)), (3, .ref (kAd K k3a)), (4, .int v6_4), (5, .int v1_5)] []) hf (by
      intro σ6 v6_4 hf
      refine g_iinc B (v1_5 + 1) [(0, .ref (kAd K k0a)), (1, .ref (kAd K k1a)), (2, .ref (kAd K k2a)), (3, .ref (kAd K k3a)), (4, .int v6_4), (5, .int ((v1_5 + 1)))] dX5_countUnlikeOfTwo_59 5 rfl rfl (by decide) [1, 2, 3, 4, 5, 0] rfl ?_
      refine g_goto (tgt := 6) B dX5_countUnlikeOfTwo_62 (by decide) ?_
      have hf := sum_l (sat_some hf)
      exact g_sub hf [0, 1, 2, 3, 4, 5] rfl)
    refine lqr2 (Gh := fun σ5 v5_4 v5_6 => Gj K σ5 18 [(0, .ref (kAd K k0a)), (1, .ref (kAd K k1a)), (2, .ref (kAd K k2a)), (3, .ref (kAd K k3a)), (4, .int v5_4), (5, .int v1_5), (6, .int v5_6)] []) ?_ fu σ1 v1_4 0 hf
    intro σ5 v5_4 v5_6 hf
    unfold f_X5_countUnlikeOfTwo_s18 at hf
    refine g_iload B dX5_countUnlikeOfTwo_18 6 rfl ?_
    refine g_aload_n B dX5_countUnlikeOfTwo_20 rfl 2 rfl ?_
    obtain ⟨h7, hf⟩ := sat_chk hf
    refine c_get_P_count C (eq_of_beq h7) wf_RX5_39 dX5_countUnlikeOfTwo_21 ?_
    refine g_icmp_ge (tgt := 59) B dX5_countUnlikeOfTwo_24 (by decide) (fun c8 => ?_) (fun c8 => ?_)
    · have hf := sat_t hf c8
      have hf := sum_r (sat_some hf)
      exact g_sub hf [0, 1, 2, 3, 4, 5] rfl
    · have hf := sat_f hf c8
      refine g_aload_n B dX5_countUnlikeOfTwo_27 rfl 0 rfl ?_
      refine g_iload B dX5_countUnlikeOfTwo_28 5 rfl ?_
      refine g_aload_n B dX5_countUnlikeOfTwo_30 rfl 2 rfl ?_
      refine g_iload B dX5_countUnlikeOfTwo_31 6 rfl ?_
      obtain ⟨σ9, r9, h9, hf⟩ := sat_ca1 hf
      refine g_cSI (rest := []) B (ck_X5_areAlike C h9) mo_X5_areAlike wm_RX5_152 (by decide) rfl rfl (Nat.le_of_ble_eq_true rfl) dX5_countUnlikeOfTwo_33 ?_
      refine g_if_eq (tgt := 53) B dX5_countUnlikeOfTwo_36 (by decide) (fun c10 => ?_) (fun c10 => ?_)
      · have hf := sat_t hf c10
        refine g_iinc B (v5_6 + 1) [(0, .ref (kAd K k0a)), (1, .ref (kAd K k1a)), (2, .ref (kAd K k2a)), (3, .ref (kAd K k3a)), (4, .int v5_4), (5, .int v1_5), (6, .int ((v5_6 + 1)))] dX5_countUnlikeOfTwo_53 6 rfl rfl (by decide) [1, 2, 3, 4, 5, 6, 0] rfl ?_
        refine g_goto (tgt := 18) B dX5_countUnlikeOfTwo_56 (by decide) ?_
        have hf := sum_l (sat_some hf)
        exact g_sub hf [0, 1, 2, 3, 4, 5, 6] rfl
      · have hf := sat_f hf c10
        refine g_aload_n B dX5_countUnlikeOfTwo_39 rfl 1 rfl ?_
        refine g_iload B dX5_countUnlikeOfTwo_40 5 rfl ?_
        obtain ⟨h11, hf⟩ := sat_chk hf
        refine c_iald C h11 dX5_countUnlikeOfTwo_42 ?_
        refine g_aload_n B dX5_countUnlikeOfTwo_43 rfl 3 rfl ?_
        refine g_iload B dX5_countUnlikeOfTwo_44 6 rfl ?_
        obtain ⟨h12, hf⟩ := sat_chk hf
        refine c_iald C h12 dX5_countUnlikeOfTwo_46 ?_
        refine g_icmp_eq (tgt := 53) B dX5_countUnlikeOfTwo_47 (by decide) (fun c13 => ?_) (fun c13 => ?_)
        · have hf := sat_t hf c13
          refine g_iinc B (v5_6 + 1) [(0, .ref (kAd K k0a)), (1, .ref (kAd K k1a)), (2, .ref (kAd K k2a)), (3, .ref (kAd K k3a)), (4, .int v5_4), (5, .int v1_5), (6, .int ((v5_6 + 1)))] dX5_countUnlikeOfTwo_53 6 rfl rfl (by decide) [1, 2, 3, 4, 5, 6, 0] rfl ?_
          refine g_goto (tgt := 18) B dX5_countUnlikeOfTwo_56 (by decide) ?_
          have hf := sum_l (sat_some hf)
          exact g_sub hf [0, 1, 2, 3, 4, 5, 6] rfl
        · have hf := sat_f hf c13
          refine g_iinc B (v5_4 + 1) [(0, .ref (kAd K k0a)), (1, .ref (kAd K k1a)), (2, .ref (kAd K k2a)), (3, .ref (kAd K k3a)), (4, .int ((v5_4 + 1))), (5, .int v1_5), (6, .int v5_6)] dX5_countUnlikeOfTwo_50 4 rfl rfl (by decide) [1, 2, 3, 4, 0, 5, 6] rfl ?_
          refine g_iinc B (v5_6 + 1) [(0, .ref (kAd K k0a)), (1, .ref (kAd K k1a)), (2, .ref (kAd K k2a)), (3, .ref (kAd K k3a)), (4, .int ((v5_4 + 1))), (5, .int v1_5), (6, .int ((v5_6 + 1)))] dX5_countUnlikeOfTwo_53 6 rfl rfl (by decide) [1, 2, 3, 4, 5, 6, 0] rfl ?_
          refine g_goto (tgt := 18) B dX5_countUnlikeOfTwo_56 (by decide) ?_
          have hf := sum_l (sat_some hf)
          exact g_sub hf [0, 1, 2, 3, 4, 5, 6] rfl
theorem c_X5_countUnlikeOfTwo (l : Launch) (D : va_G) (Ad : Nat → Nat) (cI cP cII : ClassId) {σ : Mm} {k0a : Nat} {k1a : Nat} {k2a : Nat} {k3a : Nat} {τ : Mm} {r : Int32} (h : f_X5_countUnlikeOfTwo σ k0a k1a k2a k3a = some (τ, r)) : CtI l D (tysC cI cP cII) (wdC Ad cI cP cII) StC yX5_countUnlikeOfTwo cX5_countUnlikeOfTwo 7 .int 1 σ [.ref (Ad k0a), .ref (Ad k1a), .ref (Ad k2a), .ref (Ad k3a)] (τ, r) := by
  refine metI (Ad := Ad) (cI := cI) (cP := cP) (cII := cII) (by decide) (Nat.le_of_ble_eq_true rfl) (wdG_ok _ _ _) stOK_C rfl (fun K C G hR => ?_)
  have e : kAd K = Ad := G.2.2.2.2.2.1
  have C2 := cC_of C G
  have h9 := w_X5_countUnlikeOfTwo C2 σ k0a k1a k2a k3a ⟨_, h, by rw [hR]; exact ⟨rfl, rfl⟩⟩
  rw [e] at h9
  exact h9
theorem ck_X5_countUnlikeOfTwo {K : Kx} {cc : ByteArray} {own : String} {nL d : Nat} {rty : Option FieldType} (C : CxC K cc own nL d rty) {σ : Mm} {k0a : Nat} {k1a : Nat} {k2a : Nat} {k3a : Nat} {τ : Mm} {r : Int32} (h : f_X5_countUnlikeOfTwo σ k0a k1a k2a k3a = some (τ, r)) : CtI (kl K) (kD K) (ktys K) (kwf K) (kSt K) yX5_countUnlikeOfTwo cX5_countUnlikeOfTwo 7 .int 1 σ [.ref (kAd K k0a), .ref (kAd K k1a), .ref (kAd K k2a), .ref (kAd K k3a)] (τ, r) := cC_eq C (P := fun l D tys wf St => CtI l D tys wf St yX5_countUnlikeOfTwo cX5_countUnlikeOfTwo 7 .int 1 σ [.ref (kAd K k0a), .ref (kAd K k1a), .ref (kAd K k2a), .ref (kAd K k3a)] (τ, r)) (c_X5_countUnlikeOfTwo _ _ _ _ _ _ h)
def f_X5_unionBowing (σ : Mm) (p1 : Int32) (p2 : Int32) : Option (Mm × Option Nat) :=
  chk (inb p2 3) (chk (kdC (31 + 15 * p2.toNatClampNeg) == 2) (bn1 (f_X3_bowingFrom σ (31 + 15 * p2.toNatClampNeg) ((p1 >>> (p2 &&& 31)) &&& 1)) (fun σ2 r2 => onul r2 (none) (fun k2 => some (σ2, some k2)))))
set_option maxHeartbeats 4000000 in
set_option maxRecDepth 100000 in
theorem w_X5_unionBowing {K : Kx} (C : CxC K cX5_unionBowing RX5 3 1 (some (.object "FourStrings$Bowing"))) (σ : Mm) (p1 : Int32) (p2 : Int32) (hf : Sat (f_X5_unionBowing σ p1 p2) (fun o => kRt K (some (va_rf (o.2.map (kAd K)))) o.1)) : Gj K σ 0 [(0, .ref (kAd K 0)), (1, .int p1), (2, .int p2)] [] := by
  unfold f_X5_unionBowing at hf
  have B := C.1
  refine g_aload_n B dX5_unionBowing_0 rfl 0 rfl ?_
  refine c_get_F_parts C wf_RX5_16 dX5_unionBowing_1 ?_
  refine g_iload_n B dX5_unionBowing_4 rfl 2 rfl ?_
  obtain ⟨h1, hf⟩ := sat_chk hf
  refine c_aald2 C h1 dX5_unionBowing_5 ?_
  refine g_iload_n B dX5_unionBowing_6 rfl 1 rfl ?_
  refine g_iload_n B dX5_unionBowing_7 rfl 2 rfl ?_
  refine g_ishr B dX5_unionBowing_8 ?_
  refine g_iconst (v := 1) B dX5_unionBowing_9 (by decide) ?_
  refine g_iand B dX5_unionBowing_10 ?_
  obtain ⟨h3, hf⟩ := sat_chk hf
  obtain ⟨σ2, r2, h2, hf⟩ := sat_ca1 hf
  refine g_cVA (rest := []) B (ck_X3_bowingFrom C h2) mo_X3_bowingFrom wm_RX5_121 (by decide) (cC_o2 C (eq_of_beq h3)) rfl rfl rfl (Nat.le_of_ble_eq_true rfl) dX5_unionBowing_11 ?_
  cases r2 with
  | none =>
    exact (sat_none (sat_on0 hf)).elim
  | some k2 =>
    have hf := sat_on1 hf
    show Gj K σ2 14 [(0, .ref (kAd K 0)), (1, .int p1), (2, .int p2)] [.ref (kAd K k2)]
    have hf := sat_some hf
    exact g_aret B rfl dX5_unionBowing_14 hf
theorem c_X5_unionBowing (l : Launch) (D : va_G) (Ad : Nat → Nat) (cI cP cII : ClassId) {σ : Mm} {p1 : Int32} {p2 : Int32} {τ : Mm} {r : Option Nat} (h : f_X5_unionBowing σ p1 p2 = some (τ, r)) : CtA l D (tysC cI cP cII) (wdC Ad cI cP cII) StC yX5_unionBowing cX5_unionBowing 3 (.object "FourStrings$Bowing") 1 σ [.ref (Ad 0), .int p1, .int p2] (τ, r.map Ad) := by
  refine metA (Ad := Ad) (cI := cI) (cP := cP) (cII := cII) (by decide) (Nat.le_of_ble_eq_true rfl) (wdG_ok _ _ _) stOK_C rfl ⟨_, rfl⟩ (fun K C G hR => ?_)
  have e : kAd K = Ad := G.2.2.2.2.2.1
  have C2 := cC_of C G
  have h9 := w_X5_unionBowing C2 σ p1 p2 ⟨_, h, by rw [hR]; exact ⟨by rw [e], rfl⟩⟩
  rw [e] at h9
  exact h9
theorem ck_X5_unionBowing {K : Kx} {cc : ByteArray} {own : String} {nL d : Nat} {rty : Option FieldType} (C : CxC K cc own nL d rty) {σ : Mm} {p1 : Int32} {p2 : Int32} {τ : Mm} {r : Option Nat} (h : f_X5_unionBowing σ p1 p2 = some (τ, r)) : CtA (kl K) (kD K) (ktys K) (kwf K) (kSt K) yX5_unionBowing cX5_unionBowing 3 (.object "FourStrings$Bowing") 1 σ [.ref (kAd K 0), .int p1, .int p2] (τ, r.map (kAd K)) := cC_eq C (P := fun l D tys wf St => CtA l D tys wf St yX5_unionBowing cX5_unionBowing 3 (.object "FourStrings$Bowing") 1 σ [.ref (kAd K 0), .int p1, .int p2] (τ, r.map (kAd K))) (c_X5_unionBowing _ _ _ _ _ _ h)
def f_X5_countUnlike_s14 (p1 : Int32) (v1_3 : Int32) (σ4 : Mm) (v4_2 : Int32) (v4_4 : Int32) : Option ((Mm × Int32 × Int32) ⊕ (Mm × Int32)) :=
  (if 3 ≤ v4_4 then some (.inr (σ4, v4_2)) else bn1 (f_X5_unionBowing σ4 p1 v1_3) (fun σ7 r7 => onul r7 (none) (fun k7 => chk (kdC k7 == 0) (bn1 (f_X5_unionBowing σ7 p1 v4_4) (fun σ9 r9 => onul r9 (none) (fun k9 => chk (kdC k9 == 0) (chk (inb v1_3 3) (chk (inb v4_4 3) (bn1 (f_X5_countUnlikeOfTwo σ9 (31 + 15 * v1_3.toNatClampNeg) (k7 + 1) (31 + 15 * v4_4.toNatClampNeg) (k9 + 1)) (fun σ13 r13 => some (.inl (σ13, (v4_2 + r13), (v4_4 + 1)))))))))))))
def f_X5_countUnlike_s4 (p1 : Int32) (σ1 : Mm) (v1_2 : Int32) (v1_3 : Int32) : Option ((Mm × Int32 × Int32) ⊕ (Mm × Int32)) :=
  (if 3 ≤ v1_3 then some (.inr (σ1, v1_2)) else bn1 (lq2 (f_X5_countUnlike_s14 p1 v1_3) fu σ1 v1_2 (v1_3 + 1)) (fun σ5 v5_2 => some (.inl (σ5, v5_2, (v1_3 + 1)))))
def f_X5_countUnlike (σ : Mm) (p1 : Int32) : Option (Mm × Int32) :=
  bn1 (lq2 (f_X5_countUnlike_s4 p1) fu σ 0 0) (fun σ2 v2_2 => some (σ2, v2_2))
set_option maxHeartbeats 4000000 in
set_option maxRecDepth 100000 in
theorem w_X5_countUnlike {K : Kx} (C : CxC K cX5_countUnlike RX5 7 2 (some .int)) (σ : Mm) (p1 : Int32) (hf : Sat (f_X5_countUnlike σ p1) (fun o => kRt K (some (.int o.2)) o.1)) : Gj K σ 0 [(0, .ref (kAd K 0)), (1, .int p1)] [] := by
  unfold f_X5_countUnlike at hf
  have B := C.1
  refine g_iconst (v := 0) B dX5_countUnlike_0 (by decide) ?_
  refine g_istore_n B [(0, .ref (kAd K 0)), (1, .int p1), (2, .int 0)] dX5_countUnlike_1 rfl (by decide) [1, 2, 0] rfl ?_
  refine g_iconst (v := 0) B dX5_countUnlike_2 (by decide) ?_
  refine g_istore_n B [(0, .ref (kAd K 0)), (1, .int p1), (2, .int 0), (3, .int 0)] dX5_countUnlike_3 rfl (by decide) [1, 2, 3, 0] rfl ?_
  have hf := sat_cu1 (G := fun σ2 v2_2 => Gj K σ2 78 [(2, .int v2_2)] []) hf (by
    intro σ2 v2_2 hf
    refine g_iload_n B dX5_countUnlike_78 rfl 0 rfl ?_
    have hf := sat_some hf
    exact g_iret B rfl rfl dX5_countUnlike_79 hf)
  refine lqr2 (Gh := fun σ1 v1_2 v1_3 => Gj K σ1 4 [(0, .ref (kAd K 0)), (1, .int p1), (2, .int v1_2), (3, .int v1_3)] []) ?_ fu σ 0 0 hf
  intro σ1 v1_2 v1_3 hf
  unfold f_X5_countUnlike_s4 at hf
  refine g_iload_n B dX5_countUnlike_4 rfl 3 rfl ?_
  refine g_iconst (v := 3) B dX5_countUnlike_5 (by decide) ?_
  refine g_icmp_ge (tgt := 78) B dX5_countUnlike_6 (by decide) (fun c3 => ?_) (fun c3 => ?_)
  · have hf := sat_t hf c3
    have hf := sum_r (sat_some hf)
    exact g_sub hf [2] rfl
  · have hf := sat_f hf c3
    refine g_iload_n B dX5_countUnlike_9 rfl 3 rfl ?_
    refine g_iconst (v := 1) B dX5_countUnlike_10 (by decide) ?_
    refine g_iadd B dX5_countUnlike_11 ?_
    refine g_istore B [(0, .ref (kAd K 0)), (1, .int p1), (2, .int v1_2), (3, .int v1_3), (4, .int ((v1_3 + 1)))] dX5_countUnlike_12 (by decide) [1, 2, 3, 4, 0] rfl ?_
    have hf := sat_cu1 (G := fun σ5 v5_2 => Gj K σ5 72 [(0, .ref (kAd K 0)), (1, .int p1), (2, .int v5_2), (3, .int v1_3)] []) hf (by
      intro σ5 v5_2 hf
      refine g_iinc B (v1_3 + 1) [(0, .ref (kAd K 0)), (1, .int p1), (2, .int v5_2), (3, .int ((v1_3 + 1)))] dX5_countUnlike_72 3 rfl rfl (by decide) [1, 2, 3, 0] rfl ?_
      refine g_goto (tgt := 4) B dX5_countUnlike_75 (by decide) ?_
      have hf := sum_l (sat_some hf)
      exact g_sub hf [0, 1, 2, 3] rfl)
    refine lqr2 (Gh := fun σ4 v4_2 v4_4 => Gj K σ4 14 [(0, .ref (kAd K 0)), (1, .int p1), (2, .int v4_2), (3, .int v1_3), (4, .int v4_4)] []) ?_ fu σ1 v1_2 (v1_3 + 1) hf
    intro σ4 v4_2 v4_4 hf
    unfold f_X5_countUnlike_s14 at hf
    refine g_iload B dX5_countUnlike_14 4 rfl ?_
    refine g_iconst (v := 3) B dX5_countUnlike_16 (by decide) ?_
    refine g_icmp_ge (tgt := 72) B dX5_countUnlike_17 (by decide) (fun c6 => ?_) (fun c6 => ?_)
    · have hf := sat_t hf c6
      have hf := sum_r (sat_some hf)
      exact g_sub hf [0, 1, 2, 3] rfl
    · have hf := sat_f hf c6
      refine g_aload_n B dX5_countUnlike_20 rfl 0 rfl ?_
      refine g_iload_n B dX5_countUnlike_21 rfl 1 rfl ?_
      refine g_iload_n B dX5_countUnlike_22 rfl 3 rfl ?_
      obtain ⟨σ7, r7, h7, hf⟩ := sat_ca1 hf
      refine g_cVA (rest := []) B (ck_X5_unionBowing C h7) mo_X5_unionBowing wm_RX5_190 (by decide) (cC_o3 C) rfl rfl rfl (Nat.le_of_ble_eq_true rfl) dX5_countUnlike_23 ?_
      cases r7 with
      | none =>
        exact (sat_none (sat_on0 hf)).elim
      | some k7 =>
        have hf := sat_on1 hf
        show Gj K σ7 26 [(0, .ref (kAd K 0)), (1, .int p1), (2, .int v4_2), (3, .int v1_3), (4, .int v4_4)] [.ref (kAd K k7)]
        obtain ⟨h8, hf⟩ := sat_chk hf
        refine c_get_B_directions C (eq_of_beq h8) wf_RX5_138 dX5_countUnlike_26 ?_
        refine g_astore B [(0, .ref (kAd K 0)), (1, .int p1), (2, .int v4_2), (3, .int v1_3), (4, .int v4_4), (5, .ref (kAd K ((k7 + 1))))] dX5_countUnlike_29 (by decide) [1, 2, 3, 4, 5, 0] rfl ?_
        refine g_aload_n B dX5_countUnlike_31 rfl 0 rfl ?_
        refine g_iload_n B dX5_countUnlike_32 rfl 1 rfl ?_
        refine g_iload B dX5_countUnlike_33 4 rfl ?_
        obtain ⟨σ9, r9, h9, hf⟩ := sat_ca1 hf
        refine g_cVA (rest := []) B (ck_X5_unionBowing C h9) mo_X5_unionBowing wm_RX5_190 (by decide) (cC_o3 C) rfl rfl rfl (Nat.le_of_ble_eq_true rfl) dX5_countUnlike_35 ?_
        cases r9 with
        | none =>
          exact (sat_none (sat_on0 hf)).elim
        | some k9 =>
          have hf := sat_on1 hf
          show Gj K σ9 38 [(0, .ref (kAd K 0)), (1, .int p1), (2, .int v4_2), (3, .int v1_3), (4, .int v4_4), (5, .ref (kAd K ((k7 + 1))))] [.ref (kAd K k9)]
          obtain ⟨h10, hf⟩ := sat_chk hf
          refine c_get_B_directions C (eq_of_beq h10) wf_RX5_138 dX5_countUnlike_38 ?_
          refine g_astore B [(0, .ref (kAd K 0)), (1, .int p1), (2, .int v4_2), (3, .int v1_3), (4, .int v4_4), (5, .ref (kAd K ((k7 + 1)))), (6, .ref (kAd K ((k9 + 1))))] dX5_countUnlike_41 (by decide) [1, 2, 3, 4, 5, 6, 0] rfl ?_
          refine g_iload_n B dX5_countUnlike_43 rfl 2 rfl ?_
          refine g_aload_n B dX5_countUnlike_44 rfl 0 rfl ?_
          refine c_get_F_parts C wf_RX5_16 dX5_countUnlike_45 ?_
          refine g_iload_n B dX5_countUnlike_48 rfl 3 rfl ?_
          obtain ⟨h11, hf⟩ := sat_chk hf
          refine c_aald2 C h11 dX5_countUnlike_49 ?_
          refine g_aload B dX5_countUnlike_50 5 rfl ?_
          refine g_aload_n B dX5_countUnlike_52 rfl 0 rfl ?_
          refine c_get_F_parts C wf_RX5_16 dX5_countUnlike_53 ?_
          refine g_iload B dX5_countUnlike_56 4 rfl ?_
          obtain ⟨h12, hf⟩ := sat_chk hf
          refine c_aald2 C h12 dX5_countUnlike_58 ?_
          refine g_aload B dX5_countUnlike_59 6 rfl ?_
          obtain ⟨σ13, r13, h13, hf⟩ := sat_ca1 hf
          refine g_cSI (rest := [.int v4_2]) B (ck_X5_countUnlikeOfTwo C h13) mo_X5_countUnlikeOfTwo wm_RX5_194 (by decide) rfl rfl (Nat.le_of_ble_eq_true rfl) dX5_countUnlike_61 ?_
          refine g_iadd B dX5_countUnlike_64 ?_
          refine g_istore_n B [(0, .ref (kAd K 0)), (1, .int p1), (2, .int ((v4_2 + r13))), (3, .int v1_3), (4, .int v4_4), (5, .ref (kAd K ((k7 + 1)))), (6, .ref (kAd K ((k9 + 1))))] dX5_countUnlike_65 rfl (by decide) [1, 2, 0, 3, 4, 5, 6] rfl ?_
          refine g_iinc B (v4_4 + 1) [(0, .ref (kAd K 0)), (1, .int p1), (2, .int ((v4_2 + r13))), (3, .int v1_3), (4, .int ((v4_4 + 1))), (5, .ref (kAd K ((k7 + 1)))), (6, .ref (kAd K ((k9 + 1))))] dX5_countUnlike_66 4 rfl rfl (by decide) [1, 2, 3, 4, 0, 5, 6] rfl ?_
          refine g_goto (tgt := 14) B dX5_countUnlike_69 (by decide) ?_
          have hf := sum_l (sat_some hf)
          exact g_sub hf [0, 1, 2, 3, 4] rfl
theorem c_X5_countUnlike (l : Launch) (D : va_G) (Ad : Nat → Nat) (cI cP cII : ClassId) {σ : Mm} {p1 : Int32} {τ : Mm} {r : Int32} (h : f_X5_countUnlike σ p1 = some (τ, r)) : CtI l D (tysC cI cP cII) (wdC Ad cI cP cII) StC yX5_countUnlike cX5_countUnlike 7 .int 2 σ [.ref (Ad 0), .int p1] (τ, r) := by
  refine metI (Ad := Ad) (cI := cI) (cP := cP) (cII := cII) (by decide) (Nat.le_of_ble_eq_true rfl) (wdG_ok _ _ _) stOK_C rfl (fun K C G hR => ?_)
  have e : kAd K = Ad := G.2.2.2.2.2.1
  have C2 := cC_of C G
  have h9 := w_X5_countUnlike C2 σ p1 ⟨_, h, by rw [hR]; exact ⟨rfl, rfl⟩⟩
  rw [e] at h9
  exact h9
theorem ck_X5_countUnlike {K : Kx} {cc : ByteArray} {own : String} {nL d : Nat} {rty : Option FieldType} (C : CxC K cc own nL d rty) {σ : Mm} {p1 : Int32} {τ : Mm} {r : Int32} (h : f_X5_countUnlike σ p1 = some (τ, r)) : CtI (kl K) (kD K) (ktys K) (kwf K) (kSt K) yX5_countUnlike cX5_countUnlike 7 .int 2 σ [.ref (kAd K 0), .int p1] (τ, r) := cC_eq C (P := fun l D tys wf St => CtI l D tys wf St yX5_countUnlike cX5_countUnlike 7 .int 2 σ [.ref (kAd K 0), .int p1] (τ, r)) (c_X5_countUnlike _ _ _ _ _ _ h)
