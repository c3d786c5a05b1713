theorem z_and31 (x : Int32) : ∃ v : Int, (0 ≤ v ∧ v ≤ 31) ∧ x &&& zI 31 = zI v := by
  have h : (x &&& zI 31).toBitVec.toNat ≤ 31 := by
    rw [Int32.toBitVec_and, BitVec.toNat_and]
    exact Nat.and_le_right
  refine ⟨((x &&& zI 31).toBitVec.toNat : Int), ⟨by omega, by omega⟩, ?_⟩
  apply Int32.toBitVec_inj.mp
  show _ = (Int32.ofInt _).toBitVec
  rw [Int32.ofInt_eq_ofNat]
  show _ = BitVec.ofNat 32 _
  rw [BitVec.ofNat_toNat, BitVec.setWidth_eq]
theorem zI_nat (n : Nat) : Int32.ofNat n = zI (n : Int) := Int32.ofInt_eq_ofNat.symm
theorem LI_up {it : Nat} {Gn : Int} {Gki : Int → Int} {Gle : Int → Int} {Glo : Int → Int} {Gta : Int → Int} {Gsh : Int → Int} {Bcnt : Int} {Bwo : Int → Int} {Bon : Int → Int} {Btw : Int → Int} {Bnu : Int → Int} {Dcnt : Int} {Dwo : Int → Int} {Don : Int → Int} {Dtw : Int → Int} {Dnu : Int → Int} {Rtape : Int → Int} {Rlen : Int} {Rfn : Int} {Rfp : Int} {Rtok : Int} {Rts : Int} {Rte : Int} {Rval : Int} {Sline : Int → Int} {Sopn : Int → Int} {Sbarred : Int → Int} {Smf : Int} {Sml : Int} {Sdep : Int} {Ser : Int} {Xbar : Int} {Xle : Int} {Xgr : Int} {Tcells : Int} {Tgap : Int} {Twires : Int → Int} {Tstands : Int → Int} {Pline : Int → Int} {Psize : Int} {Pnow : Int} {Pheads : Int → Int} {Pbusy : Int → Int} {Pcame : Int → Int} {Pout : Int → Int} {Qline : Int → Int} {Qsize : Int} {Qnow : Int} {Qheads : Int → Int} {Qbusy : Int → Int} {Qcame : Int → Int} {Qout : Int → Int} {Crow : Int → Int} {Cquiet : Int → Int} {Crun : Int} {Mthrown : Int} {Mguest : Int → Int} {Mrow : Int → Int} {Mbar : Int → Int} {Mfresh : Int → Int} {Mtape : Int → Int} {Mpos : Int} {Mtoken : Int} {MtokenAt : Int} {Mvalue : Int} {Mwrong : Int} {MwrongAt : Int} {Mthing : Int} {Morder : Int → Int} {Mone : Int} {Mtwo : Int} {Mbest : Int → Int} {Mwire : Int → Int} {Mstand : Int → Int} {Mminute : Int} {Mhead : Int → Int} {Mplays : Int → Int} {Mrests : Int → Int} {Mwent : Int → Int} {Mout : Int → Int} {Mcame : Int → Int} {Mgone : Int → Int} {MlastOut : Int} (h : LI it Gn Gki Gle Glo Gta Gsh Bcnt Bwo Bon Btw Bnu Dcnt Dwo Don Dtw Dnu Rtape Rlen Rfn Rfp Rtok Rts Rte Rval Sline Sopn Sbarred Smf Sml Sdep Ser Xbar Xle Xgr Tcells Tgap Twires Tstands Pline Psize Pnow Pheads Pbusy Pcame Pout Qline Qsize Qnow Qheads Qbusy Qcame Qout Crow Cquiet Crun Mthrown Mguest Mrow Mbar Mfresh Mtape Mpos Mtoken MtokenAt Mvalue Mwrong MwrongAt Mthing Morder Mone Mtwo Mbest Mwire Mstand Mminute Mhead Mplays Mrests Mwent Mout Mcame Mgone MlastOut) : LI (it + 1) Gn Gki Gle Glo Gta Gsh Bcnt Bwo Bon Btw Bnu Dcnt Dwo Don Dtw Dnu Rtape Rlen Rfn Rfp Rtok Rts Rte Rval Sline Sopn Sbarred Smf Sml Sdep Ser Xbar Xle Xgr Tcells Tgap Twires Tstands Pline Psize Pnow Pheads Pbusy Pcame Pout Qline Qsize Qnow Qheads Qbusy Qcame Qout Crow Cquiet Crun Mthrown Mguest Mrow Mbar Mfresh Mtape Mpos Mtoken MtokenAt Mvalue Mwrong MwrongAt Mthing Morder Mone Mtwo Mbest Mwire Mstand Mminute Mhead Mplays Mrests Mwent Mout Mcame Mgone MlastOut := by
  obtain ⟨qGn, qGki, qGle, qGlo, qGta, qGsh, qBcnt, qBwo, qBon, qBtw, qBnu, qDcnt, qDwo, qDon, qDtw, qDnu, qRtape, qRlen, qRfn, qRfp, qRtok, qRts, qRte, qRval, qSline, qSopn, qSbarred, qSmf, qSml, qSdep, qSer, qXbar, qXle, qXgr, qTcells, qTgap, qTwires, qTstands, qPline, qPsize, qPnow, qPheads, qPbusy, qPcame, qPout, qQline, qQsize, qQnow, qQheads, qQbusy, qQcame, qQout, qCrow, qCquiet, qCrun, qMthrown, qMguest, qMrow, qMbar, qMfresh, qMtape, qMpos, qMtoken, qMtokenAt, qMvalue, qMwrong, qMwrongAt, qMthing, qMorder, qMone, qMtwo, qMbest, qMwire, qMstand, qMminute, qMhead, qMplays, qMrests, qMwent, qMout, qMcame, qMgone, qMlastOut, rg, rl, rb, rd, rt, rp, rr, rw9, rn, ru⟩ := h
  exact ⟨qGn, qGki, qGle, qGlo, qGta, qGsh, qBcnt, qBwo, qBon, qBtw, qBnu, qDcnt, qDwo, qDon, qDtw, qDnu, qRtape, qRlen, qRfn, qRfp, qRtok, qRts, qRte, qRval, qSline, qSopn, qSbarred, qSmf, qSml, qSdep, qSer, qXbar, qXle, qXgr, qTcells, qTgap, qTwires, qTstands, qPline, qPsize, qPnow, qPheads, qPbusy, qPcame, qPout, qQline, qQsize, qQnow, qQheads, qQbusy, qQcame, qQout, qCrow, qCquiet, qCrun, qMthrown, qMguest, qMrow, qMbar, qMfresh, qMtape, qMpos, qMtoken, qMtokenAt, qMvalue, qMwrong, qMwrongAt, qMthing, qMorder, qMone, qMtwo, qMbest, qMwire, qMstand, qMminute, qMhead, qMplays, qMrests, qMwent, qMout, qMcame, qMgone, qMlastOut, rg, rl, rb, rd, rt, rp, rr, rw9, by omega, ru⟩
set_option maxRecDepth 100000 in
set_option maxHeartbeats 4000000 in
theorem law_loop {p : Program} {l : Launch} {e : Env} {s : State} {m : MethodId} {below : List Frame} {meth : Method} {c : Code} {b L : Nat} {xs : Nat → Int32} {D : va_G} {cI cB cZ cL : ClassId} {A : Nat → Prop} {aK aV : Nat → Nat} {sa sb : Nat} (C0 : lwC p l s m meth c b L xs D cI cB cZ cL A aK aV sa sb)  (hlocks : meth.locks = false) (hAe : ∀ q, A q → s.heap.size ≤ q) {oG oR oS oX oT oP oQ oC oM : Nat → Nat} {oo : Nat} : ∀ (n it : Nat), (L : Int) < 6 * (it : Int) + 6 * (n : Int) → it ≤ 512 → ∀ (oB oD : Nat → Nat) (fo : Nat → Int64) (Gn : Int) (Gki : Int → Int) (Gle : Int → Int) (Glo : Int → Int) (Gta : Int → Int) (Gsh : Int → Int) (Bcnt : Int) (Bwo : Int → Int) (Bon : Int → Int) (Btw : Int → Int) (Bnu : Int → Int) (Dcnt : Int) (Dwo : Int → Int) (Don : Int → Int) (Dtw : Int → Int) (Dnu : Int → Int) (Rtape : Int → Int) (Rlen : Int) (Rfn : Int) (Rfp : Int) (Rtok : Int) (Rts : Int) (Rte : Int) (Rval : Int) (Sline : Int → Int) (Sopn : Int → Int) (Sbarred : Int → Int) (Smf : Int) (Sml : Int) (Sdep : Int) (Ser : Int) (Xbar : Int) (Xle : Int) (Xgr : Int) (Tcells : Int) (Tgap : Int) (Twires : Int → Int) (Tstands : Int → Int) (Pline : Int → Int) (Psize : Int) (Pnow : Int) (Pheads : Int → Int) (Pbusy : Int → Int) (Pcame : Int → Int) (Pout : Int → Int) (Qline : Int → Int) (Qsize : Int) (Qnow : Int) (Qheads : Int → Int) (Qbusy : Int → Int) (Qcame : Int → Int) (Qout : Int → Int) (Crow : Int → Int) (Cquiet : Int → Int) (Crun : Int) (Mthrown : Int) (Mguest : Int → Int) (Mrow : Int → Int) (Mbar : Int → Int) (Mfresh : Int → Int) (Mtape : Int → Int) (Mpos : Int) (Mtoken : Int) (MtokenAt : Int) (Mvalue : Int) (Mwrong : Int) (MwrongAt : Int) (Mthing : Int) (Morder : Int → Int) (Mone : Int) (Mtwo : Int) (Mbest : Int → Int) (Mwire : Int → Int) (Mstand : Int → Int) (Mminute : Int) (Mhead : Int → Int) (Mplays : Int → Int) (Mrests : Int → Int) (Mwent : Int → Int) (Mout : Int → Int) (Mcame : Int → Int) (Mgone : Int → Int) (MlastOut : Int) (H : Heap) (locs : List Loc) (ls : Array Slot), LI it Gn Gki Gle Glo Gta Gsh Bcnt Bwo Bon Btw Bnu Dcnt Dwo Don Dtw Dnu Rtape Rlen Rfn Rfp Rtok Rts Rte Rval Sline Sopn Sbarred Smf Sml Sdep Ser Xbar Xle Xgr Tcells Tgap Twires Tstands Pline Psize Pnow Pheads Pbusy Pcame Pout Qline Qsize Qnow Qheads Qbusy Qcame Qout Crow Cquiet Crun Mthrown Mguest Mrow Mbar Mfresh Mtape Mpos Mtoken MtokenAt Mvalue Mwrong MwrongAt Mthing Morder Mone Mtwo Mbest Mwire Mstand Mminute Mhead Mplays Mrests Mwent Mout Mcame Mgone MlastOut → HW D A s.heap (lwW cI cB cZ cL oG oB oD oR oS oX oT oP oQ oC oM oo fo Gn Gki Gle Glo Gta Gsh Bcnt Bwo Bon Btw Bnu Dcnt Dwo Don Dtw Dnu Rtape Rlen Rfn Rfp Rtok Rts Rte Rval Sline Sopn Sbarred Smf Sml Sdep Ser Xbar Xle Xgr Tcells Tgap Twires Tstands Pline Psize Pnow Pheads Pbusy Pcame Pout Qline Qsize Qnow Qheads Qbusy Qcame Qout Crow Cquiet Crun Mthrown Mguest Mrow Mbar Mfresh Mtape Mpos Mtoken MtokenAt Mvalue Mwrong MwrongAt Mthing Morder Mone Mtwo Mbest Mwire Mstand Mminute Mhead Mplays Mrests Mwent Mout Mcame Mgone MlastOut) H locs → lv_has ls 7 [(4, .int (zI (6 * (it : Int)))), (3, .ref oo), (2, .ref (oM 0)), (1, .ref (oC 0)), (0, .ref b)] → W p l e room_1 s m #[Value.ref b] below meth c H locs (61 + 2 * it) (1665 + 16 * it) (lw_Z below #[Value.ref b] s) (F0 m 23 ls []) := by
  have C1 := C0
  obtain ⟨hx, hb, hr, hml, hown, hts, hX, hbl, hbA, hK, hKL, hst, hA, hZX, hZE, hL⟩ := C1
  intro n
  induction n with
  | zero =>
    intro it h0 h1 oB oD fo Gn Gki Gle Glo Gta Gsh Bcnt Bwo Bon Btw Bnu Dcnt Dwo Don Dtw Dnu Rtape Rlen Rfn Rfp Rtok Rts Rte Rval Sline Sopn Sbarred Smf Sml Sdep Ser Xbar Xle Xgr Tcells Tgap Twires Tstands Pline Psize Pnow Pheads Pbusy Pcame Pout Qline Qsize Qnow Qheads Qbusy Qcame Qout Crow Cquiet Crun Mthrown Mguest Mrow Mbar Mfresh Mtape Mpos Mtoken MtokenAt Mvalue Mwrong MwrongAt Mthing Morder Mone Mtwo Mbest Mwire Mstand Mminute Mhead Mplays Mrests Mwent Mout Mcame Mgone MlastOut H locs ls hI hw hl
    refine lv_iload hx hb dL_law_23 (lv_at hl 0 rfl) ?_
    refine lv_aload_n hx hb dL_law_25 rfl (lv_at hl 4 rfl) ?_
    refine va_slen hx hb hX hbl hbA hw.2.2 dL_law_26 ?_
    rw [zI_nat]
    refine z_bipush hx hb dL_law_27 (by decide) ?_
    refine z_isub hx hb dL_law_29 ?_
    refine z_icmp_gt (tgt := 1239) hx hb dL_law_30 (by decide) ⟨⟨by omega, by omega⟩, ⟨by omega, by omega⟩⟩ (fun c9 => ?_) (fun c9 => absurd c9 (by omega))
    refine lv_iconst (v := 1) hx hb dL_law_1239 (by decide) ?_
    refine va_forget (fun q hq => hAe _ (hw.2.2.2.2 q hq)) ?_
    refine W.widen (k := 1085) (n := 9857) (by omega) (by omega) ?_
    exact lw_ret hx hb hr hlocks dL_law_1240
  | succ n ih =>
    intro it h0 h1 oB oD fo Gn Gki Gle Glo Gta Gsh Bcnt Bwo Bon Btw Bnu Dcnt Dwo Don Dtw Dnu Rtape Rlen Rfn Rfp Rtok Rts Rte Rval Sline Sopn Sbarred Smf Sml Sdep Ser Xbar Xle Xgr Tcells Tgap Twires Tstands Pline Psize Pnow Pheads Pbusy Pcame Pout Qline Qsize Qnow Qheads Qbusy Qcame Qout Crow Cquiet Crun Mthrown Mguest Mrow Mbar Mfresh Mtape Mpos Mtoken MtokenAt Mvalue Mwrong MwrongAt Mthing Morder Mone Mtwo Mbest Mwire Mstand Mminute Mhead Mplays Mrests Mwent Mout Mcame Mgone MlastOut H locs ls hI hw hl
    refine lv_iload hx hb dL_law_23 (lv_at hl 0 rfl) ?_
    refine lv_aload_n hx hb dL_law_25 rfl (lv_at hl 4 rfl) ?_
    refine va_slen hx hb hX hbl hbA hw.2.2 dL_law_26 ?_
    rw [zI_nat]
    refine z_bipush hx hb dL_law_27 (by decide) ?_
    refine z_isub hx hb dL_law_29 ?_
    refine z_icmp_gt (tgt := 1239) hx hb dL_law_30 (by decide) ⟨⟨by omega, by omega⟩, ⟨by omega, by omega⟩⟩ (fun c9 => ?_) (fun c9 => ?_)
    · refine lv_iconst (v := 1) hx hb dL_law_1239 (by decide) ?_
      refine va_forget (fun q hq => hAe _ (hw.2.2.2.2 q hq)) ?_
      refine W.widen (k := 1085) (n := 9857) (by omega) (by omega) ?_
      exact lw_ret hx hb hr hlocks dL_law_1240
    · have hk : ∀ (oB9 oD9 : Nat → Nat) (fo9 : Nat → Int64) (Gn9 : Int) (Gki9 : Int → Int) (Gle9 : Int → Int) (Glo9 : Int → Int) (Gta9 : Int → Int) (Gsh9 : Int → Int) (Bcnt9 : Int) (Bwo9 : Int → Int) (Bon9 : Int → Int) (Btw9 : Int → Int) (Bnu9 : Int → Int) (Dcnt9 : Int) (Dwo9 : Int → Int) (Don9 : Int → Int) (Dtw9 : Int → Int) (Dnu9 : Int → Int) (Rtape9 : Int → Int) (Rlen9 : Int) (Rfn9 : Int) (Rfp9 : Int) (Rtok9 : Int) (Rts9 : Int) (Rte9 : Int) (Rval9 : Int) (Sline9 : Int → Int) (Sopn9 : Int → Int) (Sbarred9 : Int → Int) (Smf9 : Int) (Sml9 : Int) (Sdep9 : Int) (Ser9 : Int) (Xbar9 : Int) (Xle9 : Int) (Xgr9 : Int) (Tcells9 : Int) (Tgap9 : Int) (Twires9 : Int → Int) (Tstands9 : Int → Int) (Pline9 : Int → Int) (Psize9 : Int) (Pnow9 : Int) (Pheads9 : Int → Int) (Pbusy9 : Int → Int) (Pcame9 : Int → Int) (Pout9 : Int → Int) (Qline9 : Int → Int) (Qsize9 : Int) (Qnow9 : Int) (Qheads9 : Int → Int) (Qbusy9 : Int → Int) (Qcame9 : Int → Int) (Qout9 : Int → Int) (Crow9 : Int → Int) (Cquiet9 : Int → Int) (Crun9 : Int) (Mthrown9 : Int) (Mguest9 : Int → Int) (Mrow9 : Int → Int) (Mbar9 : Int → Int) (Mfresh9 : Int → Int) (Mtape9 : Int → Int) (Mpos9 : Int) (Mtoken9 : Int) (MtokenAt9 : Int) (Mvalue9 : Int) (Mwrong9 : Int) (MwrongAt9 : Int) (Mthing9 : Int) (Morder9 : Int → Int) (Mone9 : Int) (Mtwo9 : Int) (Mbest9 : Int → Int) (Mwire9 : Int → Int) (Mstand9 : Int → Int) (Mminute9 : Int) (Mhead9 : Int → Int) (Mplays9 : Int → Int) (Mrests9 : Int → Int) (Mwent9 : Int → Int) (Mout9 : Int → Int) (Mcame9 : Int → Int) (Mgone9 : Int → Int) (MlastOut9 : Int) (H : Heap) (locs : List Loc) (ls : Array Slot), LI (it + 1) Gn9 Gki9 Gle9 Glo9 Gta9 Gsh9 Bcnt9 Bwo9 Bon9 Btw9 Bnu9 Dcnt9 Dwo9 Don9 Dtw9 Dnu9 Rtape9 Rlen9 Rfn9 Rfp9 Rtok9 Rts9 Rte9 Rval9 Sline9 Sopn9 Sbarred9 Smf9 Sml9 Sdep9 Ser9 Xbar9 Xle9 Xgr9 Tcells9 Tgap9 Twires9 Tstands9 Pline9 Psize9 Pnow9 Pheads9 Pbusy9 Pcame9 Pout9 Qline9 Qsize9 Qnow9 Qheads9 Qbusy9 Qcame9 Qout9 Crow9 Cquiet9 Crun9 Mthrown9 Mguest9 Mrow9 Mbar9 Mfresh9 Mtape9 Mpos9 Mtoken9 MtokenAt9 Mvalue9 Mwrong9 MwrongAt9 Mthing9 Morder9 Mone9 Mtwo9 Mbest9 Mwire9 Mstand9 Mminute9 Mhead9 Mplays9 Mrests9 Mwent9 Mout9 Mcame9 Mgone9 MlastOut9 → HW D A s.heap (lwW cI cB cZ cL oG oB9 oD9 oR oS oX oT oP oQ oC oM oo fo9 Gn9 Gki9 Gle9 Glo9 Gta9 Gsh9 Bcnt9 Bwo9 Bon9 Btw9 Bnu9 Dcnt9 Dwo9 Don9 Dtw9 Dnu9 Rtape9 Rlen9 Rfn9 Rfp9 Rtok9 Rts9 Rte9 Rval9 Sline9 Sopn9 Sbarred9 Smf9 Sml9 Sdep9 Ser9 Xbar9 Xle9 Xgr9 Tcells9 Tgap9 Twires9 Tstands9 Pline9 Psize9 Pnow9 Pheads9 Pbusy9 Pcame9 Pout9 Qline9 Qsize9 Qnow9 Qheads9 Qbusy9 Qcame9 Qout9 Crow9 Cquiet9 Crun9 Mthrown9 Mguest9 Mrow9 Mbar9 Mfresh9 Mtape9 Mpos9 Mtoken9 MtokenAt9 Mvalue9 Mwrong9 MwrongAt9 Mthing9 Morder9 Mone9 Mtwo9 Mbest9 Mwire9 Mstand9 Mminute9 Mhead9 Mplays9 Mrests9 Mwent9 Mout9 Mcame9 Mgone9 MlastOut9) H locs → lv_has ls 7 [(4, .int (zI (6 * (it : Int)))), (3, .ref oo), (2, .ref (oM 0)), (1, .ref (oC 0)), (0, .ref b)] → W p l e room_1 s m #[Value.ref b] below meth c H locs (61 + 2 * it + 2) (1665 + 16 * it + 16) (lw_Z below #[Value.ref b] s) (F0 m 1233 ls []) := by
        intro oB9 oD9 fo9 Gn9 Gki9 Gle9 Glo9 Gta9 Gsh9 Bcnt9 Bwo9 Bon9 Btw9 Bnu9 Dcnt9 Dwo9 Don9 Dtw9 Dnu9 Rtape9 Rlen9 Rfn9 Rfp9 Rtok9 Rts9 Rte9 Rval9 Sline9 Sopn9 Sbarred9 Smf9 Sml9 Sdep9 Ser9 Xbar9 Xle9 Xgr9 Tcells9 Tgap9 Twires9 Tstands9 Pline9 Psize9 Pnow9 Pheads9 Pbusy9 Pcame9 Pout9 Qline9 Qsize9 Qnow9 Qheads9 Qbusy9 Qcame9 Qout9 Crow9 Cquiet9 Crun9 Mthrown9 Mguest9 Mrow9 Mbar9 Mfresh9 Mtape9 Mpos9 Mtoken9 MtokenAt9 Mvalue9 Mwrong9 MwrongAt9 Mthing9 Morder9 Mone9 Mtwo9 Mbest9 Mwire9 Mstand9 Mminute9 Mhead9 Mplays9 Mrests9 Mwent9 Mout9 Mcame9 Mgone9 MlastOut9 H locs ls hI hw hl
        refine z_iinc (k := 0) (lv' := [(4, .int (zI (6 * (it : Int) + 6))), (3, .ref oo), (2, .ref (oM 0)), (1, .ref (oC 0)), (0, .ref b)]) hx hb dL_law_1233 hl rfl (by decide) rfl (fun ls hl => ?_)
        refine lv_goto (tgt := 23) hx hb dL_law_1236 (by decide) ?_
        have e9 : 6 * (it : Int) + 6 = 6 * ((it + 1 : Nat) : Int) := by omega
        rw [e9] at hl
        exact ih (it + 1) (by omega) (by omega) oB9 oD9 fo9 Gn9 Gki9 Gle9 Glo9 Gta9 Gsh9 Bcnt9 Bwo9 Bon9 Btw9 Bnu9 Dcnt9 Dwo9 Don9 Dtw9 Dnu9 Rtape9 Rlen9 Rfn9 Rfp9 Rtok9 Rts9 Rte9 Rval9 Sline9 Sopn9 Sbarred9 Smf9 Sml9 Sdep9 Ser9 Xbar9 Xle9 Xgr9 Tcells9 Tgap9 Twires9 Tstands9 Pline9 Psize9 Pnow9 Pheads9 Pbusy9 Pcame9 Pout9 Qline9 Qsize9 Qnow9 Qheads9 Qbusy9 Qcame9 Qout9 Crow9 Cquiet9 Crun9 Mthrown9 Mguest9 Mrow9 Mbar9 Mfresh9 Mtape9 Mpos9 Mtoken9 MtokenAt9 Mvalue9 Mwrong9 MwrongAt9 Mthing9 Morder9 Mone9 Mtwo9 Mbest9 Mwire9 Mstand9 Mminute9 Mhead9 Mplays9 Mrests9 Mwent9 Mout9 Mcame9 Mgone9 MlastOut9 H locs ls hI hw hl
      refine lv_aload_n hx hb dL_law_33 rfl (lv_at hl 4 rfl) ?_
      refine lv_iload hx hb dL_law_34 (lv_at hl 0 rfl) ?_
      refine z_sld hx hb hX hbl hbA hw.2.2 hL (by omega) dL_law_36 ?_
      refine z_bipush hx hb dL_law_37 (by decide) ?_
      refine lv_iand hx hb dL_law_39 ?_
      obtain ⟨v9, hv9, ev9⟩ := z_and31 (zI (xZ xs (6 * (it : Int))))
      rw [ev9]
      have hi9 : 0 ≤ 6 * (it : Int) ∧ 6 * (it : Int) + 6 ≤ (L : Int) := ⟨by omega, by omega⟩
      rcases (show (v9 < 0 ∨ 27 < v9) ∨ v9 = 0 ∨ v9 = 1 ∨ v9 = 2 ∨ v9 = 3 ∨ v9 = 4 ∨ v9 = 5 ∨ v9 = 6 ∨ v9 = 7 ∨ v9 = 8 ∨ v9 = 9 ∨ v9 = 10 ∨ v9 = 11 ∨ v9 = 12 ∨ v9 = 13 ∨ v9 = 14 ∨ v9 = 15 ∨ v9 = 16 ∨ v9 = 17 ∨ v9 = 18 ∨ v9 = 19 ∨ v9 = 20 ∨ v9 = 21 ∨ v9 = 22 ∨ v9 = 23 ∨ v9 = 24 ∨ v9 = 25 ∨ v9 = 26 ∨ v9 = 27 by omega) with hc | hc | hc | hc | hc | hc | hc | hc | hc | hc | hc | hc | hc | hc | hc | hc | hc | hc | hc | hc | hc | hc | hc | hc | hc | hc | hc | hc | hc
      · refine z_tableOut (tgt := 1233) hx hb (by omega) hc dL_law_40 (by decide) ?_
        refine W.widen (k := 61 + 2 * it + 2) (n := 1665 + 16 * it + 16) (by omega) (by omega) ?_
        refine hk oB oD fo Gn Gki Gle Glo Gta Gsh Bcnt Bwo Bon Btw Bnu Dcnt Dwo Don Dtw Dnu Rtape Rlen Rfn Rfp Rtok Rts Rte Rval Sline Sopn Sbarred Smf Sml Sdep Ser Xbar Xle Xgr Tcells Tgap Twires Tstands Pline Psize Pnow Pheads Pbusy Pcame Pout Qline Qsize Qnow Qheads Qbusy Qcame Qout Crow Cquiet Crun Mthrown Mguest Mrow Mbar Mfresh Mtape Mpos Mtoken MtokenAt Mvalue Mwrong MwrongAt Mthing Morder Mone Mtwo Mbest Mwire Mstand Mminute Mhead Mplays Mrests Mwent Mout Mcame Mgone MlastOut _ _ _ ?_ hw hl
        exact LI_up hI
      · refine z_tableIn (k := 0) (off := 128) (tgt := 168) hx hb hc dL_law_40 (by decide) (by decide) rfl (by decide) ?_
        exact law_0 C0 hi9 hI hw hl ⟨by omega, by omega⟩ (by omega) hk
      · refine z_tableIn (k := 1) (off := 201) (tgt := 241) hx hb hc dL_law_40 (by decide) (by decide) rfl (by decide) ?_
        exact law_1 C0 hi9 hI hw hl ⟨by omega, by omega⟩ (by omega) hk
      · refine z_tableIn (k := 2) (off := 269) (tgt := 309) hx hb hc dL_law_40 (by decide) (by decide) rfl (by decide) ?_
        exact law_2 C0 hi9 hI hw hl ⟨by omega, by omega⟩ (by omega) hk
      · refine z_tableIn (k := 3) (off := 342) (tgt := 382) hx hb hc dL_law_40 (by decide) (by decide) rfl (by decide) ?_
        exact law_3 C0 hi9 hI hw hl ⟨by omega, by omega⟩ (by omega) hk
      · refine z_tableIn (k := 4) (off := 367) (tgt := 407) hx hb hc dL_law_40 (by decide) (by decide) rfl (by decide) ?_
        exact law_4 C0 hi9 hI hw hl ⟨by omega, by omega⟩ (by omega) hk
      · refine z_tableIn (k := 5) (off := 380) (tgt := 420) hx hb hc dL_law_40 (by decide) (by decide) rfl (by decide) ?_
        exact law_5 C0 hi9 hI hw hl ⟨by omega, by omega⟩ (by omega) hk
      · refine z_tableIn (k := 6) (off := 405) (tgt := 445) hx hb hc dL_law_40 (by decide) (by decide) rfl (by decide) ?_
        exact law_6 C0 hi9 hI hw hl ⟨by omega, by omega⟩ (by omega) hk
      · refine z_tableIn (k := 7) (off := 430) (tgt := 470) hx hb hc dL_law_40 (by decide) (by decide) rfl (by decide) ?_
        exact law_7 C0 hi9 hI hw hl ⟨by omega, by omega⟩ (by omega) hk
      · refine z_tableIn (k := 8) (off := 455) (tgt := 495) hx hb hc dL_law_40 (by decide) (by decide) rfl (by decide) ?_
        exact law_8 C0 hi9 hI hw hl ⟨by omega, by omega⟩ (by omega) hk
      · refine z_tableIn (k := 9) (off := 480) (tgt := 520) hx hb hc dL_law_40 (by decide) (by decide) rfl (by decide) ?_
        exact law_9 C0 hi9 hI hw hl ⟨by omega, by omega⟩ (by omega) hk
      · refine z_tableIn (k := 10) (off := 493) (tgt := 533) hx hb hc dL_law_40 (by decide) (by decide) rfl (by decide) ?_
        exact law_10 C0 hi9 hI hw hl ⟨by omega, by omega⟩ (by omega) hk
      · refine z_tableIn (k := 11) (off := 518) (tgt := 558) hx hb hc dL_law_40 (by decide) (by decide) rfl (by decide) ?_
        exact law_11 C0 hi9 hI hw hl ⟨by omega, by omega⟩ (by omega) hk
      · refine z_tableIn (k := 12) (off := 531) (tgt := 571) hx hb hc dL_law_40 (by decide) (by decide) rfl (by decide) ?_
        exact law_12 C0 hi9 hI hw hl ⟨by omega, by omega⟩ (by omega) hk
      · refine z_tableIn (k := 13) (off := 544) (tgt := 584) hx hb hc dL_law_40 (by decide) (by decide) rfl (by decide) ?_
        exact law_13 C0 hi9 hI hw hl ⟨by omega, by omega⟩ (by omega) hk
      · refine z_tableIn (k := 14) (off := 557) (tgt := 597) hx hb hc dL_law_40 (by decide) (by decide) rfl (by decide) ?_
        exact law_14 C0 hi9 hI hw hl ⟨by omega, by omega⟩ (by omega) hk
      · refine z_tableIn (k := 15) (off := 582) (tgt := 622) hx hb hc dL_law_40 (by decide) (by decide) rfl (by decide) ?_
        exact law_15 C0 hi9 hI hw hl ⟨by omega, by omega⟩ (by omega) hk
      · refine z_tableIn (k := 16) (off := 619) (tgt := 659) hx hb hc dL_law_40 (by decide) (by decide) rfl (by decide) ?_
        exact law_16 C0 hi9 hI hw hl ⟨by omega, by omega⟩ (by omega) hk
      · refine z_tableIn (k := 17) (off := 656) (tgt := 696) hx hb hc dL_law_40 (by decide) (by decide) rfl (by decide) ?_
        exact law_17 C0 hi9 hI hw hl ⟨by omega, by omega⟩ (by omega) hk
      · refine z_tableIn (k := 18) (off := 693) (tgt := 733) hx hb hc dL_law_40 (by decide) (by decide) rfl (by decide) ?_
        exact law_18 C0 hi9 hI hw hl ⟨by omega, by omega⟩ (by omega) hk
      · refine z_tableIn (k := 19) (off := 749) (tgt := 789) hx hb hc dL_law_40 (by decide) (by decide) rfl (by decide) ?_
        exact law_19 C0 hi9 hI hw hl ⟨by omega, by omega⟩ (by omega) hk
      · refine z_tableIn (k := 20) (off := 762) (tgt := 802) hx hb hc dL_law_40 (by decide) (by decide) rfl (by decide) ?_
        exact law_20 C0 hi9 hI hw hl ⟨by omega, by omega⟩ (by omega) hk
      · refine z_tableIn (k := 21) (off := 818) (tgt := 858) hx hb hc dL_law_40 (by decide) (by decide) rfl (by decide) ?_
        exact law_21 C0 hi9 hI hw hl ⟨by omega, by omega⟩ (by omega) hk
      · refine z_tableIn (k := 22) (off := 862) (tgt := 902) hx hb hc dL_law_40 (by decide) (by decide) rfl (by decide) ?_
        exact law_22 C0 hi9 hI hw hl ⟨by omega, by omega⟩ (by omega) hk
      · refine z_tableIn (k := 23) (off := 930) (tgt := 970) hx hb hc dL_law_40 (by decide) (by decide) rfl (by decide) ?_
        exact law_23 C0 hi9 hI hw hl ⟨by omega, by omega⟩ (by omega) hk
      · refine z_tableIn (k := 24) (off := 986) (tgt := 1026) hx hb hc dL_law_40 (by decide) (by decide) rfl (by decide) ?_
        exact law_24 C0 hi9 hI hw hl ⟨by omega, by omega⟩ (by omega) hk
      · refine z_tableIn (k := 25) (off := 1030) (tgt := 1070) hx hb hc dL_law_40 (by decide) (by decide) rfl (by decide) ?_
        exact law_25 C0 hi9 hI hw hl ⟨by omega, by omega⟩ (by omega) hk
      · refine z_tableIn (k := 26) (off := 1074) (tgt := 1114) hx hb hc dL_law_40 (by decide) (by decide) rfl (by decide) ?_
        exact law_26 C0 hi9 hI hw hl ⟨by omega, by omega⟩ (by omega) hk
      · refine z_tableIn (k := 27) (off := 1130) (tgt := 1170) hx hb hc dL_law_40 (by decide) (by decide) rfl (by decide) ?_
        exact law_27 C0 hi9 hI hw hl ⟨by omega, by omega⟩ (by omega) hk
