/-! the run of a method on the pure machine -/
def m_blk (y b : Nat) : List m_P := match m_CD[y]? with
  | some l => match l[b]? with
    | some q => q.2
    | none => []
  | none => []
def m_stt (y b : Nat) : Nat := match m_CD[y]? with
  | some l => match l[b]? with
    | some q => q.1
    | none => 0
  | none => 0
def m_tsl (a : Nat) : Int × Nat × List Nat := m_TS.getD a (0, 0, [])
def m_lsl (a : Nat) : Nat × List (Int × Nat) := m_LS.getD a (0, [])
def m_mt (y : Nat) : Nat × MethodName × ByteArray × Nat × Option FieldType := m_MT.getD y (0, x, code, 0, none)
abbrev m_own (y : Nat) : Nat := (m_mt y).1
abbrev m_nm (y : Nat) : MethodName := (m_mt y).2.1
abbrev m_by (y : Nat) : ByteArray := (m_mt y).2.2.1
abbrev m_ml (y : Nat) : Nat := (m_mt y).2.2.2.1
abbrev m_rt (y : Nat) : Option FieldType := (m_mt y).2.2.2.2
/-! ===== the checks: the numbers are the class files' code ===== -/
def m_lk2 {α : Type} : List ((Nat × Nat) × α) → Nat → Nat → Option α
  | [], _, _ => none
  | q :: r, a, b => if q.1.1 = a ∧ q.1.2 = b then some q.2 else m_lk2 r a b
theorem m_lk2_in {α : Type} {l : List ((Nat × Nat) × α)} {a b : Nat} {v : α} (h : m_lk2 l a b = some v) : ((a, b), v) ∈ l := by
  induction l with
  | nil => cases h
  | cons q r ih =>
    unfold m_lk2 at h
    split at h
    next hc =>
      cases h
      obtain ⟨⟨q1, q2⟩, q3⟩ := q
      obtain ⟨rfl, rfl⟩ := hc
      exact List.mem_cons_self
    next => exact List.mem_cons_of_mem _ (ih h)
def m_wok (w : Cond) (i : Nat) : Bool := decide (lw_tbl[i]? = some w) && goodWord w
theorem m_wok_in {w : Cond} {i : Nat} (h : m_wok w i = true) : w ∈ lw_tbl.filter goodWord := by
  simp only [m_wok, Bool.and_eq_true, decide_eq_true_eq] at h
  exact List.mem_filter.mpr ⟨List.mem_of_getElem? h.1, h.2⟩
def m_flw (q : (Nat × Nat) × (Nat × Nat × Nat)) : Cond := .fieldLink (m_cn q.1.1) q.1.2 (m_T q.2.1 q.2.2.1).1 (m_T q.2.1 q.2.2.1).2.1 (m_T q.2.1 q.2.2.1).2.2.1
def m_acn : MethodName := arraycopyName
def m_rbn : MethodName := ⟨"java/lang/Float", "floatToRawIntBits", "(F)I"⟩
def m_mlw (q : (Nat × Nat) × (Nat × Nat × Nat × Nat × Nat)) : Bool := match q.2.1 with
  | 0 => m_wok (.methodLink (m_cn q.1.1) q.1.2 (m_nm q.2.2.1)) q.2.2.2.1 && (m_wok (.instanceMethod (m_nm q.2.2.1)) q.2.2.2.2.1 && m_wok (.selects (m_nm q.2.2.1).cls (m_nm q.2.2.1) (m_nm q.2.2.1)) q.2.2.2.2.2)
  | 1 => m_wok (.methodLink (m_cn q.1.1) q.1.2 (m_nm q.2.2.1)) q.2.2.2.1 && m_wok (.static (m_nm q.2.2.1)) q.2.2.2.2.1
  | 2 => m_wok (.methodLink (m_cn q.1.1) q.1.2 (m_nm q.2.2.1)) q.2.2.2.1 && m_wok (.instanceMethod (m_nm q.2.2.1)) q.2.2.2.2.1
  | 3 => decide (lw_tbl[q.2.2.2.1]? = some (.methodLinkNest (m_cn q.1.1) q.1.2 (m_nm q.2.2.1) RX9)) && m_wok (.instanceMethod (m_nm q.2.2.1)) q.2.2.2.2.1
  | 4 => decide (lw_tbl[q.2.2.2.1]? = some (.methodLinkNest (m_cn q.1.1) q.1.2 (m_nm q.2.2.1) RX9)) && m_wok (.static (m_nm q.2.2.1)) q.2.2.2.2.1
  | 5 => m_wok (.methodLink (m_cn q.1.1) q.1.2 Lib.objectInit) q.2.2.2.1
  | 6 => m_wok (.methodLink (m_cn q.1.1) q.1.2 m_acn) q.2.2.2.1 && (m_wok (.native m_acn) q.2.2.2.2.1 && m_wok (.static m_acn) q.2.2.2.2.2)
  | 7 => m_wok (.methodLink (m_cn q.1.1) q.1.2 m_rbn) q.2.2.2.1 && (m_wok (.native m_rbn) q.2.2.2.2.1 && m_wok (.static m_rbn) q.2.2.2.2.2)
  | _ => false
theorem m_FL_ok : m_FL.all (fun q => m_wok (m_flw q) q.2.2.2) = true := by decide +kernel
theorem m_ML_ok : m_ML.all m_mlw = true := by decide +kernel
theorem m_CI_ok : m_CI.all (fun q => m_wok (.constant (m_cn q.1.1) q.1.2 (Int32.ofInt q.2.1)) q.2.2) = true := by decide +kernel
theorem m_CJ_ok : m_CJ.all (fun q => m_wok (.constantLong (m_cn q.1.1) q.1.2 (Int64.ofInt q.2.1)) q.2.2) = true := by decide +kernel
theorem m_CF_ok : m_CF.all (fun q => m_wok (.constantFloat (m_cn q.1.1) q.1.2 (UInt32.ofNat q.2.1)) q.2.2) = true := by decide +kernel
theorem m_NC_ok : m_NC.all (fun q => m_wok (.classLink (m_cn q.1.1) q.1.2 (m_cn q.2.1)) q.2.2) = true := by decide +kernel
def m_fn (k : Nat) : Nat := (m_FC.getD k []).length
theorem m_NP_ok : (List.range 10).all (fun k => m_wok (.instantiable (m_cn k) (m_fn k)) (m_NP.getD k (0, 0)).1 && m_wok (.initialized (m_cn k)) (m_NP.getD k (0, 0)).2) = true := by decide +kernel
theorem m_MP_ok2 : (List.range 197).all (fun y => m_wok (.initialized (m_nm y).cls) (m_MP.getD y (0, 0, 0)).2.1) = true := by decide +kernel
theorem m_MP_ok3 : (List.range 197).all (fun y => decide ((parseMethodDescriptor (m_nm y).desc).map (fun d => d.parameters.length) = some (m_MP.getD y (0, 0, 0)).2.2)) = true := by decide +kernel
theorem m_MP_ok4 : (List.range 197).all (fun y => plainFor (m_nm y) && (decide (m_ml y ≤ 16) && decide ((m_nm y).cls = m_cn (m_own y)))) = true := by decide +kernel
def m_cdw (y : Nat) : Prop := lw_tbl[(m_MP.getD y (0, 0, 0)).1]? = some (.code (m_nm y) (m_by y) (m_ml y) (m_rt y))
set_option maxRecDepth 20000 in
theorem m_cw0 : lw_tbl[44]? = some (Cond.code (m_nm 0) (m_by 0) (m_ml 0) (m_rt 0)) := by rfl
set_option maxRecDepth 20000 in
theorem m_cw1 : lw_tbl[52]? = some (Cond.code (m_nm 1) (m_by 1) (m_ml 1) (m_rt 1)) := by rfl
set_option maxRecDepth 20000 in
theorem m_cw2 : lw_tbl[69]? = some (Cond.code (m_nm 2) (m_by 2) (m_ml 2) (m_rt 2)) := by rfl
set_option maxRecDepth 20000 in
theorem m_cw3 : lw_tbl[87]? = some (Cond.code (m_nm 3) (m_by 3) (m_ml 3) (m_rt 3)) := by rfl
set_option maxRecDepth 20000 in
theorem m_cw4 : lw_tbl[93]? = some (Cond.code (m_nm 4) (m_by 4) (m_ml 4) (m_rt 4)) := by rfl
set_option maxRecDepth 20000 in
theorem m_cw5 : lw_tbl[137]? = some (Cond.code (m_nm 5) (m_by 5) (m_ml 5) (m_rt 5)) := by rfl
set_option maxRecDepth 20000 in
theorem m_cw6 : lw_tbl[144]? = some (Cond.code (m_nm 6) (m_by 6) (m_ml 6) (m_rt 6)) := by rfl
set_option maxRecDepth 20000 in
theorem m_cw7 : lw_tbl[205]? = some (Cond.code (m_nm 7) (m_by 7) (m_ml 7) (m_rt 7)) := by rfl
set_option maxRecDepth 20000 in
theorem m_cw8 : lw_tbl[225]? = some (Cond.code (m_nm 8) (m_by 8) (m_ml 8) (m_rt 8)) := by rfl
set_option maxRecDepth 20000 in
theorem m_cw9 : lw_tbl[231]? = some (Cond.code (m_nm 9) (m_by 9) (m_ml 9) (m_rt 9)) := by rfl
set_option maxRecDepth 20000 in
theorem m_cw10 : lw_tbl[257]? = some (Cond.code (m_nm 10) (m_by 10) (m_ml 10) (m_rt 10)) := by rfl
set_option maxRecDepth 20000 in
theorem m_cw11 : lw_tbl[654]? = some (Cond.code (m_nm 11) (m_by 11) (m_ml 11) (m_rt 11)) := by rfl
set_option maxRecDepth 20000 in
theorem m_cw12 : lw_tbl[658]? = some (Cond.code (m_nm 12) (m_by 12) (m_ml 12) (m_rt 12)) := by rfl
set_option maxRecDepth 20000 in
theorem m_cw13 : lw_tbl[650]? = some (Cond.code (m_nm 13) (m_by 13) (m_ml 13) (m_rt 13)) := by rfl
set_option maxRecDepth 20000 in
theorem m_cw14 : lw_tbl[662]? = some (Cond.code (m_nm 14) (m_by 14) (m_ml 14) (m_rt 14)) := by rfl
set_option maxRecDepth 20000 in
theorem m_cw15 : lw_tbl[666]? = some (Cond.code (m_nm 15) (m_by 15) (m_ml 15) (m_rt 15)) := by rfl
set_option maxRecDepth 20000 in
theorem m_cw16 : lw_tbl[576]? = some (Cond.code (m_nm 16) (m_by 16) (m_ml 16) (m_rt 16)) := by rfl
set_option maxRecDepth 20000 in
theorem m_cw17 : lw_tbl[671]? = some (Cond.code (m_nm 17) (m_by 17) (m_ml 17) (m_rt 17)) := by rfl
set_option maxRecDepth 20000 in
theorem m_cw18 : lw_tbl[675]? = some (Cond.code (m_nm 18) (m_by 18) (m_ml 18) (m_rt 18)) := by rfl
set_option maxRecDepth 20000 in
theorem m_cw19 : lw_tbl[679]? = some (Cond.code (m_nm 19) (m_by 19) (m_ml 19) (m_rt 19)) := by rfl
set_option maxRecDepth 20000 in
theorem m_cw20 : lw_tbl[683]? = some (Cond.code (m_nm 20) (m_by 20) (m_ml 20) (m_rt 20)) := by rfl
set_option maxRecDepth 20000 in
theorem m_cw21 : lw_tbl[451]? = some (Cond.code (m_nm 21) (m_by 21) (m_ml 21) (m_rt 21)) := by rfl
set_option maxRecDepth 20000 in
theorem m_cw22 : lw_tbl[447]? = some (Cond.code (m_nm 22) (m_by 22) (m_ml 22) (m_rt 22)) := by rfl
set_option maxRecDepth 20000 in
theorem m_cw23 : lw_tbl[688]? = some (Cond.code (m_nm 23) (m_by 23) (m_ml 23) (m_rt 23)) := by rfl
set_option maxRecDepth 20000 in
theorem m_cw24 : lw_tbl[692]? = some (Cond.code (m_nm 24) (m_by 24) (m_ml 24) (m_rt 24)) := by rfl
set_option maxRecDepth 20000 in
theorem m_cw25 : lw_tbl[571]? = some (Cond.code (m_nm 25) (m_by 25) (m_ml 25) (m_rt 25)) := by rfl
set_option maxRecDepth 20000 in
theorem m_cw26 : lw_tbl[369]? = some (Cond.code (m_nm 26) (m_by 26) (m_ml 26) (m_rt 26)) := by rfl
set_option maxRecDepth 20000 in
theorem m_cw27 : lw_tbl[580]? = some (Cond.code (m_nm 27) (m_by 27) (m_ml 27) (m_rt 27)) := by rfl
set_option maxRecDepth 20000 in
theorem m_cw28 : lw_tbl[584]? = some (Cond.code (m_nm 28) (m_by 28) (m_ml 28) (m_rt 28)) := by rfl
set_option maxRecDepth 20000 in
theorem m_cw29 : lw_tbl[389]? = some (Cond.code (m_nm 29) (m_by 29) (m_ml 29) (m_rt 29)) := by rfl
set_option maxRecDepth 20000 in
theorem m_cw30 : lw_tbl[589]? = some (Cond.code (m_nm 30) (m_by 30) (m_ml 30) (m_rt 30)) := by rfl
set_option maxRecDepth 20000 in
theorem m_cw31 : lw_tbl[347]? = some (Cond.code (m_nm 31) (m_by 31) (m_ml 31) (m_rt 31)) := by rfl
set_option maxRecDepth 20000 in
theorem m_cw32 : lw_tbl[305]? = some (Cond.code (m_nm 32) (m_by 32) (m_ml 32) (m_rt 32)) := by rfl
set_option maxRecDepth 20000 in
theorem m_cw33 : lw_tbl[309]? = some (Cond.code (m_nm 33) (m_by 33) (m_ml 33) (m_rt 33)) := by rfl
set_option maxRecDepth 20000 in
theorem m_cw34 : lw_tbl[313]? = some (Cond.code (m_nm 34) (m_by 34) (m_ml 34) (m_rt 34)) := by rfl
set_option maxRecDepth 20000 in
theorem m_cw35 : lw_tbl[316]? = some (Cond.code (m_nm 35) (m_by 35) (m_ml 35) (m_rt 35)) := by rfl
set_option maxRecDepth 20000 in
theorem m_cw36 : lw_tbl[320]? = some (Cond.code (m_nm 36) (m_by 36) (m_ml 36) (m_rt 36)) := by rfl
set_option maxRecDepth 20000 in
theorem m_cw37 : lw_tbl[327]? = some (Cond.code (m_nm 37) (m_by 37) (m_ml 37) (m_rt 37)) := by rfl
set_option maxRecDepth 20000 in
theorem m_cw38 : lw_tbl[333]? = some (Cond.code (m_nm 38) (m_by 38) (m_ml 38) (m_rt 38)) := by rfl
set_option maxRecDepth 20000 in
theorem m_cw39 : lw_tbl[337]? = some (Cond.code (m_nm 39) (m_by 39) (m_ml 39) (m_rt 39)) := by rfl
set_option maxRecDepth 20000 in
theorem m_cw40 : lw_tbl[567]? = some (Cond.code (m_nm 40) (m_by 40) (m_ml 40) (m_rt 40)) := by rfl
set_option maxRecDepth 20000 in
theorem m_cw41 : lw_tbl[553]? = some (Cond.code (m_nm 41) (m_by 41) (m_ml 41) (m_rt 41)) := by rfl
set_option maxRecDepth 20000 in
theorem m_cw42 : lw_tbl[526]? = some (Cond.code (m_nm 42) (m_by 42) (m_ml 42) (m_rt 42)) := by rfl
set_option maxRecDepth 20000 in
theorem m_cw43 : lw_tbl[522]? = some (Cond.code (m_nm 43) (m_by 43) (m_ml 43) (m_rt 43)) := by rfl
set_option maxRecDepth 20000 in
theorem m_cw44 : lw_tbl[594]? = some (Cond.code (m_nm 44) (m_by 44) (m_ml 44) (m_rt 44)) := by rfl
set_option maxRecDepth 20000 in
theorem m_cw45 : lw_tbl[563]? = some (Cond.code (m_nm 45) (m_by 45) (m_ml 45) (m_rt 45)) := by rfl
set_option maxRecDepth 20000 in
theorem m_cw46 : lw_tbl[548]? = some (Cond.code (m_nm 46) (m_by 46) (m_ml 46) (m_rt 46)) := by rfl
set_option maxRecDepth 20000 in
theorem m_cw47 : lw_tbl[558]? = some (Cond.code (m_nm 47) (m_by 47) (m_ml 47) (m_rt 47)) := by rfl
set_option maxRecDepth 20000 in
theorem m_cw48 : lw_tbl[341]? = some (Cond.code (m_nm 48) (m_by 48) (m_ml 48) (m_rt 48)) := by rfl
set_option maxRecDepth 20000 in
theorem m_cw49 : lw_tbl[344]? = some (Cond.code (m_nm 49) (m_by 49) (m_ml 49) (m_rt 49)) := by rfl
set_option maxRecDepth 20000 in
theorem m_cw50 : lw_tbl[351]? = some (Cond.code (m_nm 50) (m_by 50) (m_ml 50) (m_rt 50)) := by rfl
set_option maxRecDepth 20000 in
theorem m_cw51 : lw_tbl[355]? = some (Cond.code (m_nm 51) (m_by 51) (m_ml 51) (m_rt 51)) := by rfl
set_option maxRecDepth 20000 in
theorem m_cw52 : lw_tbl[361]? = some (Cond.code (m_nm 52) (m_by 52) (m_ml 52) (m_rt 52)) := by rfl
set_option maxRecDepth 20000 in
theorem m_cw53 : lw_tbl[365]? = some (Cond.code (m_nm 53) (m_by 53) (m_ml 53) (m_rt 53)) := by rfl
set_option maxRecDepth 20000 in
theorem m_cw54 : lw_tbl[373]? = some (Cond.code (m_nm 54) (m_by 54) (m_ml 54) (m_rt 54)) := by rfl
set_option maxRecDepth 20000 in
theorem m_cw55 : lw_tbl[377]? = some (Cond.code (m_nm 55) (m_by 55) (m_ml 55) (m_rt 55)) := by rfl
set_option maxRecDepth 20000 in
theorem m_cw56 : lw_tbl[381]? = some (Cond.code (m_nm 56) (m_by 56) (m_ml 56) (m_rt 56)) := by rfl
set_option maxRecDepth 20000 in
theorem m_cw57 : lw_tbl[385]? = some (Cond.code (m_nm 57) (m_by 57) (m_ml 57) (m_rt 57)) := by rfl
set_option maxRecDepth 20000 in
theorem m_cw58 : lw_tbl[393]? = some (Cond.code (m_nm 58) (m_by 58) (m_ml 58) (m_rt 58)) := by rfl
set_option maxRecDepth 20000 in
theorem m_cw59 : lw_tbl[397]? = some (Cond.code (m_nm 59) (m_by 59) (m_ml 59) (m_rt 59)) := by rfl
set_option maxRecDepth 20000 in
theorem m_cw60 : lw_tbl[401]? = some (Cond.code (m_nm 60) (m_by 60) (m_ml 60) (m_rt 60)) := by rfl
set_option maxRecDepth 20000 in
theorem m_cw61 : lw_tbl[405]? = some (Cond.code (m_nm 61) (m_by 61) (m_ml 61) (m_rt 61)) := by rfl
set_option maxRecDepth 20000 in
theorem m_cw62 : lw_tbl[408]? = some (Cond.code (m_nm 62) (m_by 62) (m_ml 62) (m_rt 62)) := by rfl
set_option maxRecDepth 20000 in
theorem m_cw63 : lw_tbl[412]? = some (Cond.code (m_nm 63) (m_by 63) (m_ml 63) (m_rt 63)) := by rfl
set_option maxRecDepth 20000 in
theorem m_cw64 : lw_tbl[416]? = some (Cond.code (m_nm 64) (m_by 64) (m_ml 64) (m_rt 64)) := by rfl
set_option maxRecDepth 20000 in
theorem m_cw65 : lw_tbl[420]? = some (Cond.code (m_nm 65) (m_by 65) (m_ml 65) (m_rt 65)) := by rfl
set_option maxRecDepth 20000 in
theorem m_cw66 : lw_tbl[424]? = some (Cond.code (m_nm 66) (m_by 66) (m_ml 66) (m_rt 66)) := by rfl
set_option maxRecDepth 20000 in
theorem m_cw67 : lw_tbl[427]? = some (Cond.code (m_nm 67) (m_by 67) (m_ml 67) (m_rt 67)) := by rfl
set_option maxRecDepth 20000 in
theorem m_cw68 : lw_tbl[347]? = some (Cond.code (m_nm 68) (m_by 68) (m_ml 68) (m_rt 68)) := by rfl
set_option maxRecDepth 20000 in
theorem m_cw69 : lw_tbl[439]? = some (Cond.code (m_nm 69) (m_by 69) (m_ml 69) (m_rt 69)) := by rfl
set_option maxRecDepth 20000 in
theorem m_cw70 : lw_tbl[443]? = some (Cond.code (m_nm 70) (m_by 70) (m_ml 70) (m_rt 70)) := by rfl
set_option maxRecDepth 20000 in
theorem m_cw71 : lw_tbl[456]? = some (Cond.code (m_nm 71) (m_by 71) (m_ml 71) (m_rt 71)) := by rfl
set_option maxRecDepth 20000 in
theorem m_cw72 : lw_tbl[459]? = some (Cond.code (m_nm 72) (m_by 72) (m_ml 72) (m_rt 72)) := by rfl
set_option maxRecDepth 20000 in
theorem m_cw73 : lw_tbl[466]? = some (Cond.code (m_nm 73) (m_by 73) (m_ml 73) (m_rt 73)) := by rfl
set_option maxRecDepth 20000 in
theorem m_cw74 : lw_tbl[469]? = some (Cond.code (m_nm 74) (m_by 74) (m_ml 74) (m_rt 74)) := by rfl
set_option maxRecDepth 20000 in
theorem m_cw75 : lw_tbl[473]? = some (Cond.code (m_nm 75) (m_by 75) (m_ml 75) (m_rt 75)) := by rfl
set_option maxRecDepth 20000 in
theorem m_cw76 : lw_tbl[479]? = some (Cond.code (m_nm 76) (m_by 76) (m_ml 76) (m_rt 76)) := by rfl
set_option maxRecDepth 20000 in
theorem m_cw77 : lw_tbl[483]? = some (Cond.code (m_nm 77) (m_by 77) (m_ml 77) (m_rt 77)) := by rfl
set_option maxRecDepth 20000 in
theorem m_cw78 : lw_tbl[487]? = some (Cond.code (m_nm 78) (m_by 78) (m_ml 78) (m_rt 78)) := by rfl
set_option maxRecDepth 20000 in
theorem m_cw79 : lw_tbl[491]? = some (Cond.code (m_nm 79) (m_by 79) (m_ml 79) (m_rt 79)) := by rfl
set_option maxRecDepth 20000 in
theorem m_cw80 : lw_tbl[495]? = some (Cond.code (m_nm 80) (m_by 80) (m_ml 80) (m_rt 80)) := by rfl
set_option maxRecDepth 20000 in
theorem m_cw81 : lw_tbl[499]? = some (Cond.code (m_nm 81) (m_by 81) (m_ml 81) (m_rt 81)) := by rfl
set_option maxRecDepth 20000 in
theorem m_cw82 : lw_tbl[503]? = some (Cond.code (m_nm 82) (m_by 82) (m_ml 82) (m_rt 82)) := by rfl
set_option maxRecDepth 20000 in
theorem m_cw83 : lw_tbl[507]? = some (Cond.code (m_nm 83) (m_by 83) (m_ml 83) (m_rt 83)) := by rfl
set_option maxRecDepth 20000 in
theorem m_cw84 : lw_tbl[431]? = some (Cond.code (m_nm 84) (m_by 84) (m_ml 84) (m_rt 84)) := by rfl
set_option maxRecDepth 20000 in
theorem m_cw85 : lw_tbl[435]? = some (Cond.code (m_nm 85) (m_by 85) (m_ml 85) (m_rt 85)) := by rfl
set_option maxRecDepth 20000 in
theorem m_cw86 : lw_tbl[630]? = some (Cond.code (m_nm 86) (m_by 86) (m_ml 86) (m_rt 86)) := by rfl
set_option maxRecDepth 20000 in
theorem m_cw87 : lw_tbl[634]? = some (Cond.code (m_nm 87) (m_by 87) (m_ml 87) (m_rt 87)) := by rfl
set_option maxRecDepth 20000 in
theorem m_cw88 : lw_tbl[511]? = some (Cond.code (m_nm 88) (m_by 88) (m_ml 88) (m_rt 88)) := by rfl
set_option maxRecDepth 20000 in
theorem m_cw89 : lw_tbl[643]? = some (Cond.code (m_nm 89) (m_by 89) (m_ml 89) (m_rt 89)) := by rfl
set_option maxRecDepth 20000 in
theorem m_cw90 : lw_tbl[347]? = some (Cond.code (m_nm 90) (m_by 90) (m_ml 90) (m_rt 90)) := by rfl
set_option maxRecDepth 20000 in
theorem m_cw91 : lw_tbl[347]? = some (Cond.code (m_nm 91) (m_by 91) (m_ml 91) (m_rt 91)) := by rfl
set_option maxRecDepth 20000 in
theorem m_cw92 : lw_tbl[347]? = some (Cond.code (m_nm 92) (m_by 92) (m_ml 92) (m_rt 92)) := by rfl
set_option maxRecDepth 20000 in
theorem m_cw93 : lw_tbl[347]? = some (Cond.code (m_nm 93) (m_by 93) (m_ml 93) (m_rt 93)) := by rfl
set_option maxRecDepth 20000 in
theorem m_cw94 : lw_tbl[347]? = some (Cond.code (m_nm 94) (m_by 94) (m_ml 94) (m_rt 94)) := by rfl
set_option maxRecDepth 20000 in
theorem m_cw95 : lw_tbl[347]? = some (Cond.code (m_nm 95) (m_by 95) (m_ml 95) (m_rt 95)) := by rfl
set_option maxRecDepth 20000 in
theorem m_cw96 : lw_tbl[347]? = some (Cond.code (m_nm 96) (m_by 96) (m_ml 96) (m_rt 96)) := by rfl
set_option maxRecDepth 20000 in
theorem m_cw97 : lw_tbl[347]? = some (Cond.code (m_nm 97) (m_by 97) (m_ml 97) (m_rt 97)) := by rfl
set_option maxRecDepth 20000 in
theorem m_cw98 : lw_tbl[347]? = some (Cond.code (m_nm 98) (m_by 98) (m_ml 98) (m_rt 98)) := by rfl
set_option maxRecDepth 20000 in
theorem m_cw99 : lw_tbl[347]? = some (Cond.code (m_nm 99) (m_by 99) (m_ml 99) (m_rt 99)) := by rfl
set_option maxRecDepth 20000 in
theorem m_cw100 : lw_tbl[347]? = some (Cond.code (m_nm 100) (m_by 100) (m_ml 100) (m_rt 100)) := by rfl
set_option maxRecDepth 20000 in
theorem m_cw101 : lw_tbl[347]? = some (Cond.code (m_nm 101) (m_by 101) (m_ml 101) (m_rt 101)) := by rfl
set_option maxRecDepth 20000 in
theorem m_cw102 : lw_tbl[347]? = some (Cond.code (m_nm 102) (m_by 102) (m_ml 102) (m_rt 102)) := by rfl
set_option maxRecDepth 20000 in
theorem m_cw103 : lw_tbl[347]? = some (Cond.code (m_nm 103) (m_by 103) (m_ml 103) (m_rt 103)) := by rfl
set_option maxRecDepth 20000 in
theorem m_cw104 : lw_tbl[347]? = some (Cond.code (m_nm 104) (m_by 104) (m_ml 104) (m_rt 104)) := by rfl
set_option maxRecDepth 20000 in
theorem m_cw105 : lw_tbl[347]? = some (Cond.code (m_nm 105) (m_by 105) (m_ml 105) (m_rt 105)) := by rfl
set_option maxRecDepth 20000 in
theorem m_cw106 : lw_tbl[347]? = some (Cond.code (m_nm 106) (m_by 106) (m_ml 106) (m_rt 106)) := by rfl
set_option maxRecDepth 20000 in
theorem m_cw107 : lw_tbl[347]? = some (Cond.code (m_nm 107) (m_by 107) (m_ml 107) (m_rt 107)) := by rfl
set_option maxRecDepth 20000 in
theorem m_cw108 : lw_tbl[347]? = some (Cond.code (m_nm 108) (m_by 108) (m_ml 108) (m_rt 108)) := by rfl
set_option maxRecDepth 20000 in
theorem m_cw109 : lw_tbl[347]? = some (Cond.code (m_nm 109) (m_by 109) (m_ml 109) (m_rt 109)) := by rfl
set_option maxRecDepth 20000 in
theorem m_cw110 : lw_tbl[347]? = some (Cond.code (m_nm 110) (m_by 110) (m_ml 110) (m_rt 110)) := by rfl
set_option maxRecDepth 20000 in
theorem m_cw111 : lw_tbl[347]? = some (Cond.code (m_nm 111) (m_by 111) (m_ml 111) (m_rt 111)) := by rfl
set_option maxRecDepth 20000 in
theorem m_cw112 : lw_tbl[347]? = some (Cond.code (m_nm 112) (m_by 112) (m_ml 112) (m_rt 112)) := by rfl
set_option maxRecDepth 20000 in
theorem m_cw113 : lw_tbl[347]? = some (Cond.code (m_nm 113) (m_by 113) (m_ml 113) (m_rt 113)) := by rfl
set_option maxRecDepth 20000 in
theorem m_cw114 : lw_tbl[347]? = some (Cond.code (m_nm 114) (m_by 114) (m_ml 114) (m_rt 114)) := by rfl
set_option maxRecDepth 20000 in
theorem m_cw115 : lw_tbl[518]? = some (Cond.code (m_nm 115) (m_by 115) (m_ml 115) (m_rt 115)) := by rfl
set_option maxRecDepth 20000 in
theorem m_cw116 : lw_tbl[347]? = some (Cond.code (m_nm 116) (m_by 116) (m_ml 116) (m_rt 116)) := by rfl
set_option maxRecDepth 20000 in
theorem m_cw117 : lw_tbl[347]? = some (Cond.code (m_nm 117) (m_by 117) (m_ml 117) (m_rt 117)) := by rfl
set_option maxRecDepth 20000 in
theorem m_cw118 : lw_tbl[347]? = some (Cond.code (m_nm 118) (m_by 118) (m_ml 118) (m_rt 118)) := by rfl
set_option maxRecDepth 20000 in
theorem m_cw119 : lw_tbl[347]? = some (Cond.code (m_nm 119) (m_by 119) (m_ml 119) (m_rt 119)) := by rfl
set_option maxRecDepth 20000 in
theorem m_cw120 : lw_tbl[347]? = some (Cond.code (m_nm 120) (m_by 120) (m_ml 120) (m_rt 120)) := by rfl
set_option maxRecDepth 20000 in
theorem m_cw121 : lw_tbl[347]? = some (Cond.code (m_nm 121) (m_by 121) (m_ml 121) (m_rt 121)) := by rfl
set_option maxRecDepth 20000 in
theorem m_cw122 : lw_tbl[347]? = some (Cond.code (m_nm 122) (m_by 122) (m_ml 122) (m_rt 122)) := by rfl
set_option maxRecDepth 20000 in
theorem m_cw123 : lw_tbl[347]? = some (Cond.code (m_nm 123) (m_by 123) (m_ml 123) (m_rt 123)) := by rfl
set_option maxRecDepth 20000 in
theorem m_cw124 : lw_tbl[530]? = some (Cond.code (m_nm 124) (m_by 124) (m_ml 124) (m_rt 124)) := by rfl
set_option maxRecDepth 20000 in
theorem m_cw125 : lw_tbl[534]? = some (Cond.code (m_nm 125) (m_by 125) (m_ml 125) (m_rt 125)) := by rfl
set_option maxRecDepth 20000 in
theorem m_cw126 : lw_tbl[538]? = some (Cond.code (m_nm 126) (m_by 126) (m_ml 126) (m_rt 126)) := by rfl
set_option maxRecDepth 20000 in
theorem m_cw127 : lw_tbl[541]? = some (Cond.code (m_nm 127) (m_by 127) (m_ml 127) (m_rt 127)) := by rfl
set_option maxRecDepth 20000 in
theorem m_cw128 : lw_tbl[608]? = some (Cond.code (m_nm 128) (m_by 128) (m_ml 128) (m_rt 128)) := by rfl
set_option maxRecDepth 20000 in
theorem m_cw129 : lw_tbl[605]? = some (Cond.code (m_nm 129) (m_by 129) (m_ml 129) (m_rt 129)) := by rfl
set_option maxRecDepth 20000 in
theorem m_cw130 : lw_tbl[617]? = some (Cond.code (m_nm 130) (m_by 130) (m_ml 130) (m_rt 130)) := by rfl
set_option maxRecDepth 20000 in
theorem m_cw131 : lw_tbl[614]? = some (Cond.code (m_nm 131) (m_by 131) (m_ml 131) (m_rt 131)) := by rfl
set_option maxRecDepth 20000 in
theorem m_cw132 : lw_tbl[598]? = some (Cond.code (m_nm 132) (m_by 132) (m_ml 132) (m_rt 132)) := by rfl
set_option maxRecDepth 20000 in
theorem m_cw133 : lw_tbl[544]? = some (Cond.code (m_nm 133) (m_by 133) (m_ml 133) (m_rt 133)) := by rfl
set_option maxRecDepth 20000 in
theorem m_cw134 : lw_tbl[602]? = some (Cond.code (m_nm 134) (m_by 134) (m_ml 134) (m_rt 134)) := by rfl
set_option maxRecDepth 20000 in
theorem m_cw135 : lw_tbl[620]? = some (Cond.code (m_nm 135) (m_by 135) (m_ml 135) (m_rt 135)) := by rfl
set_option maxRecDepth 20000 in
theorem m_cw136 : lw_tbl[611]? = some (Cond.code (m_nm 136) (m_by 136) (m_ml 136) (m_rt 136)) := by rfl
set_option maxRecDepth 20000 in
theorem m_cw137 : lw_tbl[623]? = some (Cond.code (m_nm 137) (m_by 137) (m_ml 137) (m_rt 137)) := by rfl
set_option maxRecDepth 20000 in
theorem m_cw138 : lw_tbl[626]? = some (Cond.code (m_nm 138) (m_by 138) (m_ml 138) (m_rt 138)) := by rfl
set_option maxRecDepth 20000 in
theorem m_cw139 : lw_tbl[639]? = some (Cond.code (m_nm 139) (m_by 139) (m_ml 139) (m_rt 139)) := by rfl
set_option maxRecDepth 20000 in
theorem m_cw140 : lw_tbl[646]? = some (Cond.code (m_nm 140) (m_by 140) (m_ml 140) (m_rt 140)) := by rfl
set_option maxRecDepth 20000 in
theorem m_cw141 : lw_tbl[347]? = some (Cond.code (m_nm 141) (m_by 141) (m_ml 141) (m_rt 141)) := by rfl
set_option maxRecDepth 20000 in
theorem m_cw142 : lw_tbl[347]? = some (Cond.code (m_nm 142) (m_by 142) (m_ml 142) (m_rt 142)) := by rfl
set_option maxRecDepth 20000 in
theorem m_cw143 : lw_tbl[347]? = some (Cond.code (m_nm 143) (m_by 143) (m_ml 143) (m_rt 143)) := by rfl
set_option maxRecDepth 20000 in
theorem m_cw144 : lw_tbl[347]? = some (Cond.code (m_nm 144) (m_by 144) (m_ml 144) (m_rt 144)) := by rfl
set_option maxRecDepth 20000 in
theorem m_cw145 : lw_tbl[347]? = some (Cond.code (m_nm 145) (m_by 145) (m_ml 145) (m_rt 145)) := by rfl
set_option maxRecDepth 20000 in
theorem m_cw146 : lw_tbl[347]? = some (Cond.code (m_nm 146) (m_by 146) (m_ml 146) (m_rt 146)) := by rfl
set_option maxRecDepth 20000 in
theorem m_cw147 : lw_tbl[347]? = some (Cond.code (m_nm 147) (m_by 147) (m_ml 147) (m_rt 147)) := by rfl
set_option maxRecDepth 20000 in
theorem m_cw148 : lw_tbl[347]? = some (Cond.code (m_nm 148) (m_by 148) (m_ml 148) (m_rt 148)) := by rfl
set_option maxRecDepth 20000 in
theorem m_cw149 : lw_tbl[347]? = some (Cond.code (m_nm 149) (m_by 149) (m_ml 149) (m_rt 149)) := by rfl
set_option maxRecDepth 20000 in
theorem m_cw150 : lw_tbl[347]? = some (Cond.code (m_nm 150) (m_by 150) (m_ml 150) (m_rt 150)) := by rfl
set_option maxRecDepth 20000 in
theorem m_cw151 : lw_tbl[347]? = some (Cond.code (m_nm 151) (m_by 151) (m_ml 151) (m_rt 151)) := by rfl
set_option maxRecDepth 20000 in
theorem m_cw152 : lw_tbl[347]? = some (Cond.code (m_nm 152) (m_by 152) (m_ml 152) (m_rt 152)) := by rfl
set_option maxRecDepth 20000 in
theorem m_cw153 : lw_tbl[347]? = some (Cond.code (m_nm 153) (m_by 153) (m_ml 153) (m_rt 153)) := by rfl
set_option maxRecDepth 20000 in
theorem m_cw154 : lw_tbl[347]? = some (Cond.code (m_nm 154) (m_by 154) (m_ml 154) (m_rt 154)) := by rfl
set_option maxRecDepth 20000 in
theorem m_cw155 : lw_tbl[347]? = some (Cond.code (m_nm 155) (m_by 155) (m_ml 155) (m_rt 155)) := by rfl
set_option maxRecDepth 20000 in
theorem m_cw156 : lw_tbl[347]? = some (Cond.code (m_nm 156) (m_by 156) (m_ml 156) (m_rt 156)) := by rfl
set_option maxRecDepth 20000 in
theorem m_cw157 : lw_tbl[347]? = some (Cond.code (m_nm 157) (m_by 157) (m_ml 157) (m_rt 157)) := by rfl
set_option maxRecDepth 20000 in
theorem m_cw158 : lw_tbl[347]? = some (Cond.code (m_nm 158) (m_by 158) (m_ml 158) (m_rt 158)) := by rfl
set_option maxRecDepth 20000 in
theorem m_cw159 : lw_tbl[347]? = some (Cond.code (m_nm 159) (m_by 159) (m_ml 159) (m_rt 159)) := by rfl
set_option maxRecDepth 20000 in
theorem m_cw160 : lw_tbl[347]? = some (Cond.code (m_nm 160) (m_by 160) (m_ml 160) (m_rt 160)) := by rfl
set_option maxRecDepth 20000 in
theorem m_cw161 : lw_tbl[347]? = some (Cond.code (m_nm 161) (m_by 161) (m_ml 161) (m_rt 161)) := by rfl
set_option maxRecDepth 20000 in
theorem m_cw162 : lw_tbl[347]? = some (Cond.code (m_nm 162) (m_by 162) (m_ml 162) (m_rt 162)) := by rfl
set_option maxRecDepth 20000 in
theorem m_cw163 : lw_tbl[347]? = some (Cond.code (m_nm 163) (m_by 163) (m_ml 163) (m_rt 163)) := by rfl
set_option maxRecDepth 20000 in
theorem m_cw164 : lw_tbl[347]? = some (Cond.code (m_nm 164) (m_by 164) (m_ml 164) (m_rt 164)) := by rfl
set_option maxRecDepth 20000 in
theorem m_cw165 : lw_tbl[347]? = some (Cond.code (m_nm 165) (m_by 165) (m_ml 165) (m_rt 165)) := by rfl
set_option maxRecDepth 20000 in
theorem m_cw166 : lw_tbl[347]? = some (Cond.code (m_nm 166) (m_by 166) (m_ml 166) (m_rt 166)) := by rfl
set_option maxRecDepth 20000 in
theorem m_cw167 : lw_tbl[347]? = some (Cond.code (m_nm 167) (m_by 167) (m_ml 167) (m_rt 167)) := by rfl
set_option maxRecDepth 20000 in
theorem m_cw168 : lw_tbl[347]? = some (Cond.code (m_nm 168) (m_by 168) (m_ml 168) (m_rt 168)) := by rfl
set_option maxRecDepth 20000 in
theorem m_cw169 : lw_tbl[347]? = some (Cond.code (m_nm 169) (m_by 169) (m_ml 169) (m_rt 169)) := by rfl
set_option maxRecDepth 20000 in
theorem m_cw170 : lw_tbl[347]? = some (Cond.code (m_nm 170) (m_by 170) (m_ml 170) (m_rt 170)) := by rfl
set_option maxRecDepth 20000 in
theorem m_cw171 : lw_tbl[347]? = some (Cond.code (m_nm 171) (m_by 171) (m_ml 171) (m_rt 171)) := by rfl
set_option maxRecDepth 20000 in
theorem m_cw172 : lw_tbl[347]? = some (Cond.code (m_nm 172) (m_by 172) (m_ml 172) (m_rt 172)) := by rfl
set_option maxRecDepth 20000 in
theorem m_cw173 : lw_tbl[347]? = some (Cond.code (m_nm 173) (m_by 173) (m_ml 173) (m_rt 173)) := by rfl
set_option maxRecDepth 20000 in
theorem m_cw174 : lw_tbl[347]? = some (Cond.code (m_nm 174) (m_by 174) (m_ml 174) (m_rt 174)) := by rfl
set_option maxRecDepth 20000 in
theorem m_cw175 : lw_tbl[347]? = some (Cond.code (m_nm 175) (m_by 175) (m_ml 175) (m_rt 175)) := by rfl
set_option maxRecDepth 20000 in
theorem m_cw176 : lw_tbl[347]? = some (Cond.code (m_nm 176) (m_by 176) (m_ml 176) (m_rt 176)) := by rfl
set_option maxRecDepth 20000 in
theorem m_cw177 : lw_tbl[347]? = some (Cond.code (m_nm 177) (m_by 177) (m_ml 177) (m_rt 177)) := by rfl
set_option maxRecDepth 20000 in
theorem m_cw178 : lw_tbl[347]? = some (Cond.code (m_nm 178) (m_by 178) (m_ml 178) (m_rt 178)) := by rfl
set_option maxRecDepth 20000 in
theorem m_cw179 : lw_tbl[347]? = some (Cond.code (m_nm 179) (m_by 179) (m_ml 179) (m_rt 179)) := by rfl
set_option maxRecDepth 20000 in
theorem m_cw180 : lw_tbl[347]? = some (Cond.code (m_nm 180) (m_by 180) (m_ml 180) (m_rt 180)) := by rfl
set_option maxRecDepth 20000 in
theorem m_cw181 : lw_tbl[347]? = some (Cond.code (m_nm 181) (m_by 181) (m_ml 181) (m_rt 181)) := by rfl
set_option maxRecDepth 20000 in
theorem m_cw182 : lw_tbl[347]? = some (Cond.code (m_nm 182) (m_by 182) (m_ml 182) (m_rt 182)) := by rfl
set_option maxRecDepth 20000 in
theorem m_cw183 : lw_tbl[347]? = some (Cond.code (m_nm 183) (m_by 183) (m_ml 183) (m_rt 183)) := by rfl
set_option maxRecDepth 20000 in
theorem m_cw184 : lw_tbl[347]? = some (Cond.code (m_nm 184) (m_by 184) (m_ml 184) (m_rt 184)) := by rfl
set_option maxRecDepth 20000 in
theorem m_cw185 : lw_tbl[347]? = some (Cond.code (m_nm 185) (m_by 185) (m_ml 185) (m_rt 185)) := by rfl
set_option maxRecDepth 20000 in
theorem m_cw186 : lw_tbl[347]? = some (Cond.code (m_nm 186) (m_by 186) (m_ml 186) (m_rt 186)) := by rfl
set_option maxRecDepth 20000 in
theorem m_cw187 : lw_tbl[347]? = some (Cond.code (m_nm 187) (m_by 187) (m_ml 187) (m_rt 187)) := by rfl
set_option maxRecDepth 20000 in
theorem m_cw188 : lw_tbl[347]? = some (Cond.code (m_nm 188) (m_by 188) (m_ml 188) (m_rt 188)) := by rfl
set_option maxRecDepth 20000 in
theorem m_cw189 : lw_tbl[347]? = some (Cond.code (m_nm 189) (m_by 189) (m_ml 189) (m_rt 189)) := by rfl
set_option maxRecDepth 20000 in
theorem m_cw190 : lw_tbl[347]? = some (Cond.code (m_nm 190) (m_by 190) (m_ml 190) (m_rt 190)) := by rfl
set_option maxRecDepth 20000 in
theorem m_cw191 : lw_tbl[347]? = some (Cond.code (m_nm 191) (m_by 191) (m_ml 191) (m_rt 191)) := by rfl
set_option maxRecDepth 20000 in
theorem m_cw192 : lw_tbl[347]? = some (Cond.code (m_nm 192) (m_by 192) (m_ml 192) (m_rt 192)) := by rfl
set_option maxRecDepth 20000 in
theorem m_cw193 : lw_tbl[347]? = some (Cond.code (m_nm 193) (m_by 193) (m_ml 193) (m_rt 193)) := by rfl
set_option maxRecDepth 20000 in
theorem m_cw194 : lw_tbl[347]? = some (Cond.code (m_nm 194) (m_by 194) (m_ml 194) (m_rt 194)) := by rfl
set_option maxRecDepth 20000 in
theorem m_cw195 : lw_tbl[347]? = some (Cond.code (m_nm 195) (m_by 195) (m_ml 195) (m_rt 195)) := by rfl
set_option maxRecDepth 20000 in
theorem m_cw196 : lw_tbl[347]? = some (Cond.code (m_nm 196) (m_by 196) (m_ml 196) (m_rt 196)) := by rfl
set_option maxRecDepth 20000 in
theorem m_cwa : ∀ y, y < 197 → m_cdw y := lt_s (lt_s (lt_s (lt_s (lt_s (lt_s (lt_s (lt_s (lt_s (lt_s (lt_s (lt_s (lt_s (lt_s (lt_s (lt_s (lt_s (lt_s (lt_s (lt_s (lt_s (lt_s (lt_s (lt_s (lt_s (lt_s (lt_s (lt_s (lt_s (lt_s (lt_s (lt_s (lt_s (lt_s (lt_s (lt_s (lt_s (lt_s (lt_s (lt_s (lt_s (lt_s (lt_s (lt_s (lt_s (lt_s (lt_s (lt_s (lt_s (lt_s (lt_s (lt_s (lt_s (lt_s (lt_s (lt_s (lt_s (lt_s (lt_s (lt_s (lt_s (lt_s (lt_s (lt_s (lt_s (lt_s (lt_s (lt_s (lt_s (lt_s (lt_s (lt_s (lt_s (lt_s (lt_s (lt_s (lt_s (lt_s (lt_s (lt_s (lt_s (lt_s (lt_s (lt_s (lt_s (lt_s (lt_s (lt_s (lt_s (lt_s (lt_s (lt_s (lt_s (lt_s (lt_s (lt_s (lt_s (lt_s (lt_s (lt_s (lt_s (lt_s (lt_s (lt_s (lt_s (lt_s (lt_s (lt_s (lt_s (lt_s (lt_s (lt_s (lt_s (lt_s (lt_s (lt_s (lt_s (lt_s (lt_s (lt_s (lt_s (lt_s (lt_s (lt_s (lt_s (lt_s (lt_s (lt_s (lt_s (lt_s (lt_s (lt_s (lt_s (lt_s (lt_s (lt_s (lt_s (lt_s (lt_s (lt_s (lt_s (lt_s (lt_s (lt_s (lt_s (lt_s (lt_s (lt_s (lt_s (lt_s (lt_s (lt_s (lt_s (lt_s (lt_s (lt_s (lt_s (lt_s (lt_s (lt_s (lt_s (lt_s (lt_s (lt_s (lt_s (lt_s (lt_s (lt_s (lt_s (lt_s (lt_s (lt_s (lt_s (lt_s (lt_s (lt_s (lt_s (lt_s (lt_s (lt_s (lt_s (lt_s (lt_s (lt_s (lt_s (lt_s (lt_s (lt_s (lt_s (lt_s (lt_s (lt_s (lt_s (lt_s (lt_s (lt_s (lt_s (lt_0) m_cw0) m_cw1) m_cw2) m_cw3) m_cw4) m_cw5) m_cw6) m_cw7) m_cw8) m_cw9) m_cw10) m_cw11) m_cw12) m_cw13) m_cw14) m_cw15) m_cw16) m_cw17) m_cw18) m_cw19) m_cw20) m_cw21) m_cw22) m_cw23) m_cw24) m_cw25) m_cw26) m_cw27) m_cw28) m_cw29) m_cw30) m_cw31) m_cw32) m_cw33) m_cw34) m_cw35) m_cw36) m_cw37) m_cw38) m_cw39) m_cw40) m_cw41) m_cw42) m_cw43) m_cw44) m_cw45) m_cw46) m_cw47) m_cw48) m_cw49) m_cw50) m_cw51) m_cw52) m_cw53) m_cw54) m_cw55) m_cw56) m_cw57) m_cw58) m_cw59) m_cw60) m_cw61) m_cw62) m_cw63) m_cw64) m_cw65) m_cw66) m_cw67) m_cw68) m_cw69) m_cw70) m_cw71) m_cw72) m_cw73) m_cw74) m_cw75) m_cw76) m_cw77) m_cw78) m_cw79) m_cw80) m_cw81) m_cw82) m_cw83) m_cw84) m_cw85) m_cw86) m_cw87) m_cw88) m_cw89) m_cw90) m_cw91) m_cw92) m_cw93) m_cw94) m_cw95) m_cw96) m_cw97) m_cw98) m_cw99) m_cw100) m_cw101) m_cw102) m_cw103) m_cw104) m_cw105) m_cw106) m_cw107) m_cw108) m_cw109) m_cw110) m_cw111) m_cw112) m_cw113) m_cw114) m_cw115) m_cw116) m_cw117) m_cw118) m_cw119) m_cw120) m_cw121) m_cw122) m_cw123) m_cw124) m_cw125) m_cw126) m_cw127) m_cw128) m_cw129) m_cw130) m_cw131) m_cw132) m_cw133) m_cw134) m_cw135) m_cw136) m_cw137) m_cw138) m_cw139) m_cw140) m_cw141) m_cw142) m_cw143) m_cw144) m_cw145) m_cw146) m_cw147) m_cw148) m_cw149) m_cw150) m_cw151) m_cw152) m_cw153) m_cw154) m_cw155) m_cw156) m_cw157) m_cw158) m_cw159) m_cw160) m_cw161) m_cw162) m_cw163) m_cw164) m_cw165) m_cw166) m_cw167) m_cw168) m_cw169) m_cw170) m_cw171) m_cw172) m_cw173) m_cw174) m_cw175) m_cw176) m_cw177) m_cw178) m_cw179) m_cw180) m_cw181) m_cw182) m_cw183) m_cw184) m_cw185) m_cw186) m_cw187) m_cw188) m_cw189) m_cw190) m_cw191) m_cw192) m_cw193) m_cw194) m_cw195) m_cw196
