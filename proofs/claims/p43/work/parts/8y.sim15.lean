set_option maxRecDepth 20000 in
set_option maxHeartbeats 4000000 in
theorem cl_taught {g : GG} {t : va_W} {ad : Nat → Nat} {w : va_W} {s9 b9 ne nt n9 : Nat} {fb : Nat → Int32} {cl : List (Nat → Int32)} {os : List OT} {L : List Int32} {tape : Nat → Int32} (eL : L = allT ne nt cl os) (hn9 : n9 = L.length) (hA : ASC (allT ne nt cl os)) (hb : LB fb (allT ne nt cl os)) (hL : (allT ne nt cl os).length ≤ 1338) (h0 : 0 < ne) (h6 : ne ≤ 6) (h0' : 0 < nt) (h6' : nt ≤ 6) (hV : ∀ k, k < cl.length → CV1 ne nt (rw5 cl k)) (hD : CD cl) (h16 : cl.length ≤ 16) (h4 : os.length ≤ 4) (hO : ∀ k, k < os.length → (oG os k).2.1 < nt ∧ ∀ T, (oG os k).2.2 = some T → TB ne nt 4 T ∧ tkn 4 T ≤ 43) (hF : CF g ad w 0 tape) : Ct g mL_taught 76 70 420 [.ref (ad 0), .ref s9] ((s9, .inr (12, [.ref b9, .int (0 : Int32), .int (0 : Int32), .int (0 : Int32)])) :: ((b9, yA g n9 fb) :: (w ++ t))) (Dq (fun (_ : va_W) => some (.int (0 : Int32))) (fun z => (s9, .inr (12, [.ref b9, .int (0 : Int32), .int (0 : Int32), .int (0 : Int32)])) :: (b9, yA g n9 fb) :: (z ++ t)) (fun z => CI g ad z ne nt cl os 0 0 0)) := by
  refine Ct.ofR (by decide +kernel) rfl (Nat.le_of_ble_eq_true rfl) ?_
  show R g mL_taught 76 70 420 0 [(0, .ref (ad 0)), (1, .ref s9)] [] ((s9, .inr (12, [.ref b9, .int (0 : Int32), .int (0 : Int32), .int (0 : Int32)])) :: ((b9, yA g n9 fb) :: (w ++ t))) _
  rw [← eL] at hA hb hL
  have hL9 : n9 ≤ 1338 := by rw [hn9]; exact hL
  refine r_iconst (v := (5 : Int32)) dL_taught_0 (by decide) ?_
  refine r_newIv (x := 69) (y := 415) (N := 5) dL_taught_1 kk_105 (by decide) (by decide) (by decide) (fun q1 => ?_)
  refine r_astore_n [(2, .ref q1), (0, .ref (ad 0)), (1, .ref s9)] dL_taught_3 (by decide) rfl ?_
  refine r_iconst (v := (0 : Int32)) dL_taught_4 (by decide) ?_
  refine r_top (w := .int (nI 0)) (rfl) ?_
  refine r_istore_n [(3, .int (nI 0)), (2, .ref q1), (0, .ref (ad 0)), (1, .ref s9)] dL_taught_5 (by decide) rfl ?_
  refine r_seg (ws2 := ((s9, .inr (12, [.ref b9, .int (0 : Int32), .int (0 : Int32), .int (0 : Int32)])) :: ((b9, yA g n9 fb) :: ((q1, iA g 5 (fun _ => 0)) :: (w ++ t))))) [[(q1, iA g 5 (fun _ => 0))], [(s9, .inr (12, [.ref b9, .int (0 : Int32), .int (0 : Int32), .int (0 : Int32)]))], [(b9, yA g n9 fb)], w, t] [1, 2, 0, 3, 4] rfl rfl rfl ?_
  have J119 : ∀ (n : Nat) (w5 : va_W) (tp f0 : Nat → Int32), CF g ad w5 n tp → TP L tp n → n9 ≤ n → n ≤ 2000 → R g mL_taught 76 1 6 119 [(1, .ref s9), (0, .ref (ad 0))] [] ((s9, .inr (12, [.ref b9, .int (0 : Int32), .int (0 : Int32), .int (0 : Int32)])) :: ((b9, yA g n9 fb) :: ((q1, iA g 5 f0) :: (w5 ++ t)))) (Dq (fun (_ : va_W) => some (.int (0 : Int32))) (fun z => (s9, .inr (12, [.ref b9, .int (0 : Int32), .int (0 : Int32), .int (0 : Int32)])) :: (b9, yA g n9 fb) :: (z ++ t)) (fun z => CI g ad z ne nt cl os 0 0 0)) := by
    intro n w5 tp f0 hF5 hT5 hn5 hn6
    obtain ⟨fs0, hc0⟩ := CF.cell hF5
    refine r_aload_n 1 dL_taught_119 rfl ?_
    refine r_aload_n 0 dL_taught_120 rfl ?_
    refine k_V (x := 1) (y := 6) (rest := [.ref (ad 0)]) 0 dL_taught_121 kv_L_9 (cj_lengthS) rfl rfl rfl rfl (Nat.le_of_ble_eq_true rfl) (by decide) (by decide) ?_
    rintro ⟨⟩ -
    show R g mL_taught 76 1 6 124 [(1, .ref s9), (0, .ref (ad 0))] [.int (nI n9), .ref (ad 0)] ((s9, .inr (12, [.ref b9, .int (0 : Int32), .int (0 : Int32), .int (0 : Int32)])) :: ((b9, yA g n9 fb) :: ((q1, iA g 5 f0) :: (w5 ++ t)))) (Dq (fun (_ : va_W) => some (.int (0 : Int32))) (fun z => (s9, .inr (12, [.ref b9, .int (0 : Int32), .int (0 : Int32), .int (0 : Int32)])) :: (b9, yA g n9 fb) :: (z ++ t)) (fun z => CI g ad z ne nt cl os 0 0 0))
    refine r_seg (ws2 := (w5 ++ ([(s9, .inr (12, [.ref b9, .int (0 : Int32), .int (0 : Int32), .int (0 : Int32)])), (b9, yA g n9 fb), (q1, iA g 5 f0)] ++ t))) [[(s9, .inr (12, [.ref b9, .int (0 : Int32), .int (0 : Int32), .int (0 : Int32)]))], [(b9, yA g n9 fb)], [(q1, iA g 5 f0)], w5, t] [3, 0, 1, 2, 4] rfl rfl rfl ?_
    refine k_Vm (x := 0) (y := 0) (rest := []) dL_taught_124 kv_L_25 (ap_trim (m := n9) hF5 hn5 hn6) rfl rfl (List.mem_append_left _ hc0) rfl (Nat.le_of_ble_eq_true rfl) (by decide) (by decide) ?_
    rintro w6 hF6
    obtain ⟨fs2, hc1⟩ := CF.cell hF6
    refine r_seg (ws2 := ((s9, .inr (12, [.ref b9, .int (0 : Int32), .int (0 : Int32), .int (0 : Int32)])) :: ((b9, yA g n9 fb) :: ((q1, iA g 5 f0) :: (w6 ++ t))))) [w6, [(s9, .inr (12, [.ref b9, .int (0 : Int32), .int (0 : Int32), .int (0 : Int32)])), (b9, yA g n9 fb), (q1, iA g 5 f0)], t] [1, 0, 2] rfl rfl rfl ?_
    show R g mL_taught 76 0 0 127 [(1, .ref s9), (0, .ref (ad 0))] [.int (nI n9)] ((s9, .inr (12, [.ref b9, .int (0 : Int32), .int (0 : Int32), .int (0 : Int32)])) :: ((b9, yA g n9 fb) :: ((q1, iA g 5 f0) :: (w6 ++ t)))) (Dq (fun (_ : va_W) => some (.int (0 : Int32))) (fun z => (s9, .inr (12, [.ref b9, .int (0 : Int32), .int (0 : Int32), .int (0 : Int32)])) :: (b9, yA g n9 fb) :: (z ++ t)) (fun z => CI g ad z ne nt cl os 0 0 0))
    refine r_pop dL_taught_127 rfl ?_
    refine r_aload_n 1 dL_taught_128 rfl ?_
    have hF7 : CF g ad w6 (allT ne nt cl os).length tp := by rw [← eL, ← hn9]; exact hF6
    have hly : Ly tp 0 (allT ne nt cl os) := by rw [← eL]; exact hT5.ly hA (by rw [← hn9]; exact hn5)
    refine r_seg (ws2 := (w6 ++ ([(s9, .inr (12, [.ref b9, .int (0 : Int32), .int (0 : Int32), .int (0 : Int32)])), (b9, yA g n9 fb), (q1, iA g 5 f0)] ++ t))) [[(s9, .inr (12, [.ref b9, .int (0 : Int32), .int (0 : Int32), .int (0 : Int32)]))], [(b9, yA g n9 fb)], [(q1, iA g 5 f0)], w6, t] [3, 0, 1, 2, 4] rfl rfl rfl ?_
    refine k_Vm (x := 0) (y := 0) (rest := []) dL_taught_129 kv_L_29 (ap_teach hF7 hly h0 h6 h0' h6' hV hD h16 h4 hO (by rw [← eL]; omega)) rfl rfl (List.mem_append_left _ hc1) rfl (Nat.le_of_ble_eq_true rfl) (by decide) (by decide) ?_
    rintro w7 hI7
    obtain ⟨fs4, hc3⟩ := CI.cell hI7
    refine r_seg (ws2 := ((s9, .inr (12, [.ref b9, .int (0 : Int32), .int (0 : Int32), .int (0 : Int32)])) :: ((b9, yA g n9 fb) :: ((q1, iA g 5 f0) :: (w7 ++ t))))) [w7, [(s9, .inr (12, [.ref b9, .int (0 : Int32), .int (0 : Int32), .int (0 : Int32)])), (b9, yA g n9 fb), (q1, iA g 5 f0)], t] [1, 0, 2] rfl rfl rfl ?_
    show R g mL_taught 76 0 0 132 [(1, .ref s9), (0, .ref (ad 0))] [.int (0 : Int32)] ((s9, .inr (12, [.ref b9, .int (0 : Int32), .int (0 : Int32), .int (0 : Int32)])) :: ((b9, yA g n9 fb) :: ((q1, iA g 5 f0) :: (w7 ++ t)))) (Dq (fun (_ : va_W) => some (.int (0 : Int32))) (fun z => (s9, .inr (12, [.ref b9, .int (0 : Int32), .int (0 : Int32), .int (0 : Int32)])) :: (b9, yA g n9 fb) :: (z ++ t)) (fun z => CI g ad z ne nt cl os 0 0 0))
    refine r_seg (ws2 := ((s9, .inr (12, [.ref b9, .int (0 : Int32), .int (0 : Int32), .int (0 : Int32)])) :: ((b9, yA g n9 fb) :: (w7 ++ t)))) [[(s9, .inr (12, [.ref b9, .int (0 : Int32), .int (0 : Int32), .int (0 : Int32)]))], [(b9, yA g n9 fb)], [(q1, iA g 5 f0)], w7, t] [0, 1, 3, 4] rfl rfl rfl ?_
    refine r_iret dL_taught_132 rfl ?_
    exact Dq.mk w7 rfl rfl hI7
  have LO : ∀ m it : Nat, it + m = 67 → ∀ (w5 : va_W) (tp f0 : Nat → Int32), CF g ad w5 (20 * it) tp → TP L tp (20 * it) → R g mL_taught 76 (m + 1) (6 * m + 6) 6 [(3, .int (nI (20 * it))), (2, .ref q1), (1, .ref s9), (0, .ref (ad 0))] [] ((s9, .inr (12, [.ref b9, .int (0 : Int32), .int (0 : Int32), .int (0 : Int32)])) :: ((b9, yA g n9 fb) :: ((q1, iA g 5 f0) :: (w5 ++ t)))) (Dq (fun (_ : va_W) => some (.int (0 : Int32))) (fun z => (s9, .inr (12, [.ref b9, .int (0 : Int32), .int (0 : Int32), .int (0 : Int32)])) :: (b9, yA g n9 fb) :: (z ++ t)) (fun z => CI g ad z ne nt cl os 0 0 0)) := by
    intro m
    induction m with
    | zero =>
      intro it hit w5 tp f0 hF5 hT5
      refine r_iload_n 0 dL_taught_6 rfl ?_
      refine r_aload_n 2 dL_taught_7 rfl ?_
      refine k_V (x := (0 + 1)) (y := (6 * 0 + 6)) (rest := [.int (nI (20 * it))]) 0 dL_taught_8 kv_L_9 (cj_lengthS) rfl rfl rfl rfl (Nat.le_of_ble_eq_true rfl) (by decide) (by decide) ?_
      rintro ⟨⟩ -
      show R g mL_taught 76 (0 + 1) (6 * 0 + 6) 11 [(3, .int (nI (20 * it))), (2, .ref q1), (1, .ref s9), (0, .ref (ad 0))] [.int (nI n9), .int (nI (20 * it))] ((s9, .inr (12, [.ref b9, .int (0 : Int32), .int (0 : Int32), .int (0 : Int32)])) :: ((b9, yA g n9 fb) :: ((q1, iA g 5 f0) :: (w5 ++ t)))) (Dq (fun (_ : va_W) => some (.int (0 : Int32))) (fun z => (s9, .inr (12, [.ref b9, .int (0 : Int32), .int (0 : Int32), .int (0 : Int32)])) :: (b9, yA g n9 fb) :: (z ++ t)) (fun z => CI g ad z ne nt cl os 0 0 0))
      refine r_icmp_ge (tgt := 119) dL_taught_11 (by decide) (fun _ => ?_) (fun hc => absurd (nI_le (by omega) (by omega)) hc)
      refine r_ls [2, 3] (ls2 := [(1, .ref s9), (0, .ref (ad 0))]) rfl ?_
      exact J119 _ w5 tp f0 hF5 hT5 (by omega) (by omega)
    | succ m ih =>
      intro it hit w5 tp f0 hF5 hT5
      obtain ⟨fs0, hc0⟩ := CF.cell hF5
      refine r_iload_n 0 dL_taught_6 rfl ?_
      refine r_aload_n 2 dL_taught_7 rfl ?_
      refine k_V (x := (m + 1 + 1)) (y := (6 * (m + 1) + 6)) (rest := [.int (nI (20 * it))]) 0 dL_taught_8 kv_L_9 (cj_lengthS) rfl rfl rfl rfl (Nat.le_of_ble_eq_true rfl) (by decide) (by decide) ?_
      rintro ⟨⟩ -
      show R g mL_taught 76 (m + 1 + 1) (6 * (m + 1) + 6) 11 [(3, .int (nI (20 * it))), (2, .ref q1), (1, .ref s9), (0, .ref (ad 0))] [.int (nI n9), .int (nI (20 * it))] ((s9, .inr (12, [.ref b9, .int (0 : Int32), .int (0 : Int32), .int (0 : Int32)])) :: ((b9, yA g n9 fb) :: ((q1, iA g 5 f0) :: (w5 ++ t)))) (Dq (fun (_ : va_W) => some (.int (0 : Int32))) (fun z => (s9, .inr (12, [.ref b9, .int (0 : Int32), .int (0 : Int32), .int (0 : Int32)])) :: (b9, yA g n9 fb) :: (z ++ t)) (fun z => CI g ad z ne nt cl os 0 0 0))
      refine r_icmp_ge (tgt := 119) dL_taught_11 (by decide) (fun c1 => ?_) (fun c1 => ?_)
      · have hle : n9 ≤ 20 * it := (nI_leI (by omega) (by omega)).mp c1
        refine r_ls [2, 3] (ls2 := [(1, .ref s9), (0, .ref (ad 0))]) rfl ?_
        refine r_room (x2 := 1) (y2 := 6) (by omega) (by omega) ?_
        exact J119 _ w5 tp f0 hF5 hT5 hle (by omega)
      · have hlt : 20 * it < n9 := by have : ¬ _ := fun h => c1 ((nI_leI (by omega) (by omega)).mpr h); omega
        refine r_iconst (v := (0 : Int32)) dL_taught_14 (by decide) ?_
        refine r_top (w := .int (nI 0)) (rfl) ?_
        refine r_istore [(4, .int (nI 0)), (3, .int (nI (20 * it))), (2, .ref q1), (1, .ref s9), (0, .ref (ad 0))] dL_taught_15 (by decide) rfl ?_
        have LK : ∀ m2 k : Nat, k + m2 = 5 → ∀ f1 : Nat → Int32, (∀ j, j < k → f1 j = nI (pkV L (20 * it + 4 * j) 4)) → R g mL_taught 76 (m + 1 + 1) (6 * (m + 1) + 6) 17 [(4, .int (nI k)), (3, .int (nI (20 * it))), (2, .ref q1), (1, .ref s9), (0, .ref (ad 0))] [] ((s9, .inr (12, [.ref b9, .int (0 : Int32), .int (0 : Int32), .int (0 : Int32)])) :: ((b9, yA g n9 fb) :: ((q1, iA g 5 f1) :: (w5 ++ t)))) (Dq (fun (_ : va_W) => some (.int (0 : Int32))) (fun z => (s9, .inr (12, [.ref b9, .int (0 : Int32), .int (0 : Int32), .int (0 : Int32)])) :: (b9, yA g n9 fb) :: (z ++ t)) (fun z => CI g ad z ne nt cl os 0 0 0)) := by
          intro m2
          induction m2 with
          | zero =>
            intro k hk f1 hf
            refine r_iload 0 dL_taught_17 rfl ?_
            refine r_iconst (v := (5 : Int32)) dL_taught_19 (by decide) ?_
            refine r_icmp_ge (tgt := 93) dL_taught_20 (by decide) (fun _ => ?_) (fun hc => absurd (nI_le (a := 5) (by omega) (by omega)) hc)
            refine r_aload_n 4 dL_taught_93 rfl ?_
            refine r_aload_n 2 dL_taught_94 rfl ?_
            refine r_iconst (v := (0 : Int32)) dL_taught_95 (by decide) ?_
            refine r_ialdm (n := 5) (f := f1) dL_taught_96 (List.mem_cons_of_mem _ (List.mem_cons_of_mem _ List.mem_cons_self)) (by decide) ?_
            refine r_top (w := .int (nI (pkV L (20 * it + 4 * 0) 4))) (by rw [show (0 : Int32).toNatClampNeg = 0 from by decide, hf 0 (by omega)]) ?_
            refine r_aload_n 2 dL_taught_97 rfl ?_
            refine r_iconst (v := (1 : Int32)) dL_taught_98 (by decide) ?_
            refine r_ialdm (n := 5) (f := f1) dL_taught_99 (List.mem_cons_of_mem _ (List.mem_cons_of_mem _ List.mem_cons_self)) (by decide) ?_
            refine r_top (w := .int (nI (pkV L (20 * it + 4 * 1) 4))) (by rw [show (1 : Int32).toNatClampNeg = 1 from by decide, hf 1 (by omega)]) ?_
            refine r_aload_n 2 dL_taught_100 rfl ?_
            refine r_iconst (v := (2 : Int32)) dL_taught_101 (by decide) ?_
            refine r_ialdm (n := 5) (f := f1) dL_taught_102 (List.mem_cons_of_mem _ (List.mem_cons_of_mem _ List.mem_cons_self)) (by decide) ?_
            refine r_top (w := .int (nI (pkV L (20 * it + 4 * 2) 4))) (by rw [show (2 : Int32).toNatClampNeg = 2 from by decide, hf 2 (by omega)]) ?_
            refine r_aload_n 2 dL_taught_103 rfl ?_
            refine r_iconst (v := (3 : Int32)) dL_taught_104 (by decide) ?_
            refine r_ialdm (n := 5) (f := f1) dL_taught_105 (List.mem_cons_of_mem _ (List.mem_cons_of_mem _ List.mem_cons_self)) (by decide) ?_
            refine r_top (w := .int (nI (pkV L (20 * it + 4 * 3) 4))) (by rw [show (3 : Int32).toNatClampNeg = 3 from by decide, hf 3 (by omega)]) ?_
            refine r_aload_n 2 dL_taught_106 rfl ?_
            refine r_iconst (v := (4 : Int32)) dL_taught_107 (by decide) ?_
            refine r_ialdm (n := 5) (f := f1) dL_taught_108 (List.mem_cons_of_mem _ (List.mem_cons_of_mem _ List.mem_cons_self)) (by decide) ?_
            refine r_top (w := .int (nI (pkV L (20 * it + 4 * 4) 4))) (by rw [show (4 : Int32).toNatClampNeg = 4 from by decide, hf 4 (by omega)]) ?_
            refine r_seg (ws2 := (w5 ++ ([(s9, .inr (12, [.ref b9, .int (0 : Int32), .int (0 : Int32), .int (0 : Int32)])), (b9, yA g n9 fb), (q1, iA g 5 f1)] ++ t))) [[(s9, .inr (12, [.ref b9, .int (0 : Int32), .int (0 : Int32), .int (0 : Int32)]))], [(b9, yA g n9 fb)], [(q1, iA g 5 f1)], w5, t] [3, 0, 1, 2, 4] rfl rfl rfl ?_
            refine r_room (x2 := (m + 1) + 1) (y2 := (6 * m + 6) + 6) (by omega) (by omega) ?_
            refine k_Vm (x := (m + 1)) (y := (6 * m + 6)) (rest := []) dL_taught_109 kv_L_19 (ap_feed hF5 (by omega) _ _ _ _ _) rfl rfl (List.mem_append_left _ hc0) rfl (Nat.le_of_ble_eq_true rfl) (by decide) (by decide) ?_
            rintro w6 hF6
            obtain ⟨fs6, hc5⟩ := CF.cell hF6
            refine r_seg (ws2 := ((s9, .inr (12, [.ref b9, .int (0 : Int32), .int (0 : Int32), .int (0 : Int32)])) :: ((b9, yA g n9 fb) :: ((q1, iA g 5 f1) :: (w6 ++ t))))) [w6, [(s9, .inr (12, [.ref b9, .int (0 : Int32), .int (0 : Int32), .int (0 : Int32)])), (b9, yA g n9 fb), (q1, iA g 5 f1)], t] [1, 0, 2] rfl rfl rfl ?_
            show R g mL_taught 76 (m + 1) (6 * m + 6) 112 [(4, .int (nI k)), (3, .int (nI (20 * it))), (2, .ref q1), (1, .ref s9), (0, .ref (ad 0))] [.int (nI (20 * it + 20))] ((s9, .inr (12, [.ref b9, .int (0 : Int32), .int (0 : Int32), .int (0 : Int32)])) :: ((b9, yA g n9 fb) :: ((q1, iA g 5 f1) :: (w6 ++ t)))) (Dq (fun (_ : va_W) => some (.int (0 : Int32))) (fun z => (s9, .inr (12, [.ref b9, .int (0 : Int32), .int (0 : Int32), .int (0 : Int32)])) :: (b9, yA g n9 fb) :: (z ++ t)) (fun z => CI g ad z ne nt cl os 0 0 0))
            refine r_pop dL_taught_112 rfl ?_
            refine r_iinc (v2 := (nI (20 * (it + 1)))) 1 [(3, .int (nI (20 * (it + 1)))), (4, .int (nI k)), (2, .ref q1), (1, .ref s9), (0, .ref (ad 0))] dL_taught_113 rfl (nI_add (20 * it) 20) (by decide) rfl ?_
            refine r_goto (tgt := 6) dL_taught_116 (by decide) ?_
            refine r_ls [0, 2, 3, 4] (ls2 := [(3, .int (nI (20 * (it + 1)))), (2, .ref q1), (1, .ref s9), (0, .ref (ad 0))]) rfl ?_
            exact ih (it + 1) (by omega) w6 _ f1 hF6 (tp_fed hA hT5)
          | succ m2 ihk =>
            intro k hk f1 hf
            refine r_iload 0 dL_taught_17 rfl ?_
            refine r_iconst (v := (5 : Int32)) dL_taught_19 (by decide) ?_
            refine r_icmp_ge (tgt := 93) dL_taught_20 (by decide) (fun hc => absurd hc (nI_ge (b := 5) (by omega) (by decide))) (fun _ => ?_)
            refine r_aload_n 2 dL_taught_23 rfl ?_
            refine r_iload 0 dL_taught_24 rfl ?_
            refine r_iconst (v := (0 : Int32)) dL_taught_26 (by decide) ?_
            refine r_iast (ws2 := ((s9, .inr (12, [.ref b9, .int (0 : Int32), .int (0 : Int32), .int (0 : Int32)])) :: ((b9, yA g n9 fb) :: ((q1, iA g 5 (upd f1 k (nI (pkV L (20 * it + 4 * k) 0)))) :: (w5 ++ t))))) 2 dL_taught_27 rfl (ib_nI (by omega) (by decide)) (by rw [nI_clamp (by omega)] <;> rfl) ?_
            refine r_iload_n 1 dL_taught_28 rfl ?_
            refine r_iconst (v := (4 : Int32)) dL_taught_29 (by decide) ?_
            refine r_iload 0 dL_taught_30 rfl ?_
            refine r_imul dL_taught_32 ?_
            refine r_iadd dL_taught_33 ?_
            refine r_top (w := .int (nI (20 * it + 4 * k + 0))) (congrArg Value.int (show nI (20 * it) + (4 : Int32) * nI k = nI (20 * it + 4 * k + 0) from by rw [show (4 : Int32) * nI k = nI (4 * k) from (Int32.ofNat_mul 4 k).symm, nI_add]; rfl)) ?_
            refine r_istore [(5, .int (nI (20 * it + 4 * k + 0))), (4, .int (nI k)), (3, .int (nI (20 * it))), (2, .ref q1), (1, .ref s9), (0, .ref (ad 0))] dL_taught_34 (by decide) rfl ?_
            have LM : ∀ m3 mm : Nat, mm + m3 = 4 → R g mL_taught 76 (m + 1 + 1) (6 * (m + 1) + 6) 36 [(5, .int (nI (20 * it + 4 * k + mm))), (4, .int (nI k)), (3, .int (nI (20 * it))), (2, .ref q1), (1, .ref s9), (0, .ref (ad 0))] [] ((s9, .inr (12, [.ref b9, .int (0 : Int32), .int (0 : Int32), .int (0 : Int32)])) :: ((b9, yA g n9 fb) :: ((q1, iA g 5 (upd f1 k (nI (pkV L (20 * it + 4 * k) mm)))) :: (w5 ++ t)))) (Dq (fun (_ : va_W) => some (.int (0 : Int32))) (fun z => (s9, .inr (12, [.ref b9, .int (0 : Int32), .int (0 : Int32), .int (0 : Int32)])) :: (b9, yA g n9 fb) :: (z ++ t)) (fun z => CI g ad z ne nt cl os 0 0 0)) := by
              intro m3
              induction m3 with
              | zero =>
                intro mm hmm
                have emm : mm = 4 := by omega
                refine r_iload 0 dL_taught_36 rfl ?_
                refine r_iload_n 2 dL_taught_38 rfl ?_
                refine r_iconst (v := (4 : Int32)) dL_taught_39 (by decide) ?_
                refine r_iload 1 dL_taught_40 rfl ?_
                refine r_imul dL_taught_42 ?_
                refine r_iadd dL_taught_43 ?_
                refine r_iconst (v := (4 : Int32)) dL_taught_44 (by decide) ?_
                refine r_iadd dL_taught_45 ?_
                refine r_top (w := .int (nI (20 * it + 4 * k + 4))) (congrArg Value.int (show nI (20 * it) + (4 : Int32) * nI k + 4 = nI (20 * it + 4 * k + 4) from by rw [show (4 : Int32) * nI k = nI (4 * k) from (Int32.ofNat_mul 4 k).symm, nI_add]; exact nI_add _ 4)) ?_
                refine r_icmp_ge (tgt := 87) dL_taught_46 (by decide) (fun _ => ?_) (fun hc => absurd (nI_le (by omega) (by omega)) hc)
                refine r_iinc (v2 := (nI (k + 1))) 1 [(4, .int (nI (k + 1))), (5, .int (nI (20 * it + 4 * k + mm))), (3, .int (nI (20 * it))), (2, .ref q1), (1, .ref s9), (0, .ref (ad 0))] dL_taught_87 rfl (nI_1 k) (by decide) rfl ?_
                refine r_goto (tgt := 17) dL_taught_90 (by decide) ?_
                refine r_ls [0, 2, 3, 4, 5] (ls2 := [(4, .int (nI (k + 1))), (3, .int (nI (20 * it))), (2, .ref q1), (1, .ref s9), (0, .ref (ad 0))]) rfl ?_
                exact ihk (k + 1) (by omega) _ (fun j hj => by
                  by_cases e : j = k
                  · rw [e, upd_at, emm]
                  · rw [upd_ne e]
                    exact hf j (by omega))
              | succ m3 ihm =>
                intro mm hmm
                refine r_iload 0 dL_taught_36 rfl ?_
                refine r_iload_n 2 dL_taught_38 rfl ?_
                refine r_iconst (v := (4 : Int32)) dL_taught_39 (by decide) ?_
                refine r_iload 1 dL_taught_40 rfl ?_
                refine r_imul dL_taught_42 ?_
                refine r_iadd dL_taught_43 ?_
                refine r_iconst (v := (4 : Int32)) dL_taught_44 (by decide) ?_
                refine r_iadd dL_taught_45 ?_
                refine r_top (w := .int (nI (20 * it + 4 * k + 4))) (congrArg Value.int (show nI (20 * it) + (4 : Int32) * nI k + 4 = nI (20 * it + 4 * k + 4) from by rw [show (4 : Int32) * nI k = nI (4 * k) from (Int32.ofNat_mul 4 k).symm, nI_add]; exact nI_add _ 4)) ?_
                refine r_icmp_ge (tgt := 87) dL_taught_46 (by decide) (fun hc => absurd hc (nI_ge (by omega) (by omega))) (fun _ => ?_)
                refine r_aload_n 3 dL_taught_49 rfl ?_
                refine r_iload 1 dL_taught_50 rfl ?_
                refine r_aload_n 3 dL_taught_52 rfl ?_
                refine r_iload 1 dL_taught_53 rfl ?_
                refine r_ialdm (n := 5) (f := (upd f1 k (nI (pkV L (20 * it + 4 * k) mm)))) dL_taught_55 (List.mem_cons_of_mem _ (List.mem_cons_of_mem _ List.mem_cons_self)) (ib_nI (by omega) (by decide)) ?_
                refine r_top (w := .int (nI (pkV L (20 * it + 4 * k) mm))) (by rw [nI_clamp (by omega), upd_at]) ?_
                refine r_bipush (v := (8 : Int32)) dL_taught_56 (by decide) ?_
                refine r_ishl dL_taught_58 ?_
                refine r_iload 0 dL_taught_59 rfl ?_
                refine r_aload_n 4 dL_taught_61 rfl ?_
                have J79 : R g mL_taught 76 (m + 1 + 1) (6 * (m + 1) + 6) 79 [(5, .int (nI (20 * it + 4 * k + mm))), (4, .int (nI k)), (3, .int (nI (20 * it))), (2, .ref q1), (1, .ref s9), (0, .ref (ad 0))] [.int (nI (bt L (20 * it + 4 * k + mm))), .int ((nI (pkV L (20 * it + 4 * k) mm)) <<< ((8 : Int32) &&& 31)), .int (nI k), .ref q1] ((s9, .inr (12, [.ref b9, .int (0 : Int32), .int (0 : Int32), .int (0 : Int32)])) :: ((b9, yA g n9 fb) :: ((q1, iA g 5 (upd f1 k (nI (pkV L (20 * it + 4 * k) mm)))) :: (w5 ++ t)))) (Dq (fun (_ : va_W) => some (.int (0 : Int32))) (fun z => (s9, .inr (12, [.ref b9, .int (0 : Int32), .int (0 : Int32), .int (0 : Int32)])) :: (b9, yA g n9 fb) :: (z ++ t)) (fun z => CI g ad z ne nt cl os 0 0 0)) := by
                  refine r_ior dL_taught_79 ?_
                  refine r_iast (ws2 := ((s9, .inr (12, [.ref b9, .int (0 : Int32), .int (0 : Int32), .int (0 : Int32)])) :: ((b9, yA g n9 fb) :: ((q1, iA g 5 (upd f1 k (nI (pkV L (20 * it + 4 * k) (mm + 1))))) :: (w5 ++ t))))) 2 dL_taught_80 rfl (ib_nI (by omega) (by decide)) (by rw [nI_clamp (by omega), pk_or hA (20 * it + 4 * k) (show mm < 4 by omega), u2] <;> rfl) ?_
                  refine r_iinc (v2 := (nI (20 * it + 4 * k + (mm + 1)))) 0 [(5, .int (nI (20 * it + 4 * k + (mm + 1)))), (4, .int (nI k)), (3, .int (nI (20 * it))), (2, .ref q1), (1, .ref s9), (0, .ref (ad 0))] dL_taught_81 rfl (nI_1 (20 * it + 4 * k + mm)) (by decide) rfl ?_
                  refine r_goto (tgt := 36) dL_taught_84 (by decide) ?_
                  exact ihm (mm + 1) (by omega)
                refine k_V (x := (m + 1 + 1)) (y := (6 * (m + 1) + 6)) (rest := [.int (nI (20 * it + 4 * k + mm)), .int ((nI (pkV L (20 * it + 4 * k) mm)) <<< ((8 : Int32) &&& 31)), .int (nI k), .ref q1]) 0 dL_taught_62 kv_L_9 (cj_lengthS) rfl rfl rfl rfl (Nat.le_of_ble_eq_true rfl) (by decide) (by decide) ?_
                rintro ⟨⟩ -
                show R g mL_taught 76 (m + 1 + 1) (6 * (m + 1) + 6) 65 [(5, .int (nI (20 * it + 4 * k + mm))), (4, .int (nI k)), (3, .int (nI (20 * it))), (2, .ref q1), (1, .ref s9), (0, .ref (ad 0))] [.int (nI n9), .int (nI (20 * it + 4 * k + mm)), .int ((nI (pkV L (20 * it + 4 * k) mm)) <<< ((8 : Int32) &&& 31)), .int (nI k), .ref q1] ((s9, .inr (12, [.ref b9, .int (0 : Int32), .int (0 : Int32), .int (0 : Int32)])) :: ((b9, yA g n9 fb) :: ((q1, iA g 5 (upd f1 k (nI (pkV L (20 * it + 4 * k) mm)))) :: (w5 ++ t)))) (Dq (fun (_ : va_W) => some (.int (0 : Int32))) (fun z => (s9, .inr (12, [.ref b9, .int (0 : Int32), .int (0 : Int32), .int (0 : Int32)])) :: (b9, yA g n9 fb) :: (z ++ t)) (fun z => CI g ad z ne nt cl os 0 0 0))
                refine r_icmp_ge (tgt := 77) dL_taught_65 (by decide) (fun c2 => ?_) (fun c2 => ?_)
                · refine r_bipush (v := (32 : Int32)) dL_taught_77 (by decide) ?_
                  refine r_top (w := .int (nI (bt L (20 * it + 4 * k + mm)))) (by rw [bt_out (i := (20 * it + 4 * k + mm)) (by rw [← hn9]; exact (nI_leI (by omega) (by omega)).mp c2)]; rfl) ?_
                  exact J79
                · have hx : (20 * it + 4 * k + mm) < n9 := by have : ¬ _ := fun h => c2 ((nI_leI (by omega) (by omega)).mpr h); omega
                  have hx2 : (20 * it + 4 * k + mm) < L.length := by rw [← hn9]; exact hx
                  refine r_aload_n 4 dL_taught_68 rfl ?_
                  refine r_iload 0 dL_taught_69 rfl ?_
                  refine k_V (x := (m + 1 + 1)) (y := (6 * (m + 1) + 6)) (rest := [.int ((nI (pkV L (20 * it + 4 * k) mm)) <<< ((8 : Int32) &&& 31)), .int (nI k), .ref q1]) 0 dL_taught_71 kv_L_15 (cj_charAt (i := (20 * it + 4 * k + mm)) (c := bt L (20 * it + 4 * k + mm)) hx (by omega) ((hb.2 _ hx2).trans (bt_in hA hx2).1) (bt_in hA hx2).2) rfl rfl rfl rfl (Nat.le_of_ble_eq_true rfl) (by decide) (by decide) ?_
                  rintro ⟨⟩ -
                  show R g mL_taught 76 (m + 1 + 1) (6 * (m + 1) + 6) 74 [(5, .int (nI (20 * it + 4 * k + mm))), (4, .int (nI k)), (3, .int (nI (20 * it))), (2, .ref q1), (1, .ref s9), (0, .ref (ad 0))] [.int (nI (bt L (20 * it + 4 * k + mm))), .int ((nI (pkV L (20 * it + 4 * k) mm)) <<< ((8 : Int32) &&& 31)), .int (nI k), .ref q1] ((s9, .inr (12, [.ref b9, .int (0 : Int32), .int (0 : Int32), .int (0 : Int32)])) :: ((b9, yA g n9 fb) :: ((q1, iA g 5 (upd f1 k (nI (pkV L (20 * it + 4 * k) mm)))) :: (w5 ++ t)))) (Dq (fun (_ : va_W) => some (.int (0 : Int32))) (fun z => (s9, .inr (12, [.ref b9, .int (0 : Int32), .int (0 : Int32), .int (0 : Int32)])) :: (b9, yA g n9 fb) :: (z ++ t)) (fun z => CI g ad z ne nt cl os 0 0 0))
                  refine r_goto (tgt := 79) dL_taught_74 (by decide) ?_
                  exact J79
            exact LM 4 0 (by decide)
        exact LK 5 0 (by decide) f0 (fun j hj => absurd hj (Nat.not_lt_zero j))
  refine r_ls [0, 1, 3, 2] (ls2 := [(3, .int (nI 0)), (2, .ref q1), (1, .ref s9), (0, .ref (ad 0))]) rfl ?_
  refine r_room (x2 := 67 + 1) (y2 := 6 * 67 + 6) (by decide) (by decide) ?_
  exact LO 67 0 (by decide) w tape _ hF (fun j hj => absurd hj (Nat.not_lt_zero j))
