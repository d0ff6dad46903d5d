theorem t_bagOf {A B : Nat} {M : Mm} {Q : Po} {c : Int32} {n : Nat} (hn : M 58 7 = nI n) (h7 : n ≤ 7)
    (hQ : Q (some (.int (lp (fun t s => s ||| (if M 65 t = c then 1 <<< (nI t &&& 31) else 0)) n 0))) (shw A B) M) : WP 162 0 [.ref 58, .int c, mk, mk] [] (shw A B) (0, 0) M Q := by
  simp only [w_m_bagOf_0, w_m_bagOf_1, w_m_bagOf_2, w_m_bagOf_3, w_m_bagOf_5, w_m_bagOf_6, w_m_bagOf_9, w_m_bagOf_12, w_m_bagOf_13, w_m_bagOf_14, w_m_bagOf_17, w_m_bagOf_18, w_m_bagOf_19, w_m_bagOf_20, w_m_bagOf_23, w_m_bagOf_24, w_m_bagOf_25, w_m_bagOf_26, w_m_bagOf_29, w_m_bagOf_30, w_m_bagOf_31, w_m_bagOf_32, w_m_bagOf_35, w_m_bagOf_38, w_m_bagOf_39, xm_7, xm_9, al_65, gv_int, gv_ref, av_some, al_some, un_int, un_ref, un_mk, ok4_0, ok4_1, ok4_2, ok4_3, ok4_4, Kn_some, Kn_none, true_and, and_true]
  have key : ∀ j k, k + j = n → WP 162 4 [.ref 58, .int c, .int (lp (fun t s => s ||| (if M 65 t = c then 1 <<< (nI t &&& 31) else 0)) k 0), .int (nI k)] [] (shw A B) (0, 0) M Q := by
    intro j
    induction j with
    | zero =>
      intro k hk
      have hk : k = n := hk
      subst hk
      rw [w_m_bagOf_4]
      simp only [w_m_bagOf_0, w_m_bagOf_1, w_m_bagOf_2, w_m_bagOf_3, w_m_bagOf_5, w_m_bagOf_6, w_m_bagOf_9, w_m_bagOf_12, w_m_bagOf_13, w_m_bagOf_14, w_m_bagOf_17, w_m_bagOf_18, w_m_bagOf_19, w_m_bagOf_20, w_m_bagOf_23, w_m_bagOf_24, w_m_bagOf_25, w_m_bagOf_26, w_m_bagOf_29, w_m_bagOf_30, w_m_bagOf_31, w_m_bagOf_32, w_m_bagOf_35, w_m_bagOf_38, w_m_bagOf_39, xm_7, xm_9, al_65, hn, lt_irr, if_false, gv_int, gv_ref, av_some, al_some, un_int, un_ref, un_mk, ok4_0, ok4_1, ok4_2, ok4_3, ok4_4, Kn_some, Kn_none, true_and, and_true]
      exact hQ
    | succ j ih =>
      intro k hk
      have h1 : nI k < nI n := nI_lt (by omega) (by omega)
      rw [w_m_bagOf_4]
      simp only [w_m_bagOf_0, w_m_bagOf_1, w_m_bagOf_2, w_m_bagOf_3, w_m_bagOf_5, w_m_bagOf_6, w_m_bagOf_9, w_m_bagOf_12, w_m_bagOf_13, w_m_bagOf_14, w_m_bagOf_17, w_m_bagOf_18, w_m_bagOf_19, w_m_bagOf_20, w_m_bagOf_23, w_m_bagOf_24, w_m_bagOf_25, w_m_bagOf_26, w_m_bagOf_29, w_m_bagOf_30, w_m_bagOf_31, w_m_bagOf_32, w_m_bagOf_35, w_m_bagOf_38, w_m_bagOf_39, xm_7, xm_9, al_65, hn, h1, if_true, gv_int, gv_ref, av_some, al_some, un_int, un_ref, un_mk, ok4_0, ok4_1, ok4_2, ok4_3, ok4_4, Kn_some, Kn_none, true_and, and_true]
      trace_state
      sorry
  exact key n 0 (Nat.zero_add n)
