/-! what the asking calls answer, out of the peaks FD and REACH -/
def un_ (FD : Int → Int) (re : Int) : Int := sumZ (fun x => bI (0 < cnt FD re x 64)) 384
def nt_ (FD : Int → Int) (re : Int) : Int := sumZ (fun x => bI (0 < vt FD re x 16)) 124
def he_ (FD : Int → Int) (re : Int) : Int := sumZ (fun x => hu FD re x) 16
def ku_ (FD : Int → Int) (re : Int) : Int := sumZ (fun x => ku FD re x) 16
def al_ (FD : Int → Int) (re : Int) : Int := sumZ (fun x => vt FD re x 16) 124
def V_ (FD : Int → Int) (re : Int) : Int → Int := fun x => vt FD re x 16
theorem nt_rg (FD : Int → Int) (re : Int) : 0 ≤ nt_ FD re ∧ nt_ FD re ≤ 124 := sumZ_01 (by omega) (fun _ _ _ => bI_rg _)
theorem V_rg (FD : Int → Int) (re j : Int) : 0 ≤ V_ FD re j ∧ V_ FD re j ≤ 100000 := by
  have h := vt_rg FD re j
  unfold V_
  omega
/-- ledger and ballot are those of the peaks FD -/
def cOK (FD : Int → Int) (re : Int) (EN OR : Int → Int) : Prop := enOK FD re EN ∧ stt FD re 384 ≤ 320 ∧ okO (V_ FD re) OR (nt_ FD re) 124
/-- the same of any contents, within the lengths -/
def fOK (FD : Int → Int) (re : Int) (F ST EN CE OR : Int → Int) (un rk he kn al : Int) : Prop := (∀ j, 0 ≤ j → j < 80 → F j = FD j) ∧ (∀ j, 0 ≤ j → j < 385 → ST j = stt FD re j) ∧ (∀ j, 0 ≤ j → j < 124 → CE j = V_ FD re j) ∧ un = un_ FD re ∧ rk = nt_ FD re ∧ he = he_ FD re ∧ kn = ku_ FD re ∧ al = al_ FD re ∧ cOK FD re EN OR
def tq (wh fl re un tp he kn nt al dp : Int) (V O : Int → Int) : Int := if wh = 0 then fl else if wh = 1 then re else if wh = 2 then un else if wh = 3 then tp else if wh = 4 then he else if wh = 5 then kn else if wh = 6 then (if 0 < nt then O 0 / 31 else -1) else if wh = 7 then (if 0 < nt then O 0 % 31 - 15 else 0) else if wh = 8 then (if 0 < nt then V (O 0) else 0) else if wh = 9 then dbt V O nt else if wh = 10 then nt else if wh = 11 then al else if wh = 12 then dp else -1000000002
def rq (wh re row : Int) (FD NU SZ : Int → Int) : Int := if wh = 0 then SZ row else if wh = 1 then SZ row / 8 else if wh = 2 then sumZ (fun x => bI (FD (row * 16 + x) ≠ -1)) 16 else if wh = 3 then sumZ (fun x => sumZ (fun y => bI (kyf FD re row x (x + (y + 1)) ≠ -1)) re) 16 else if wh = 4 then sumZ (fun x => sumZ (fun y => sh (wv (fun i => NU (row * 128 + (x * 8 + i)))) y) 8) (SZ row / 8) else if wh = 5 then (mo (fun x => sumZ (fun y => bI (FD (row * 16 + y) = x)) 16) 8).1 else -1000000002
/-- rank k of the order O -/
def kq (k wh nt : Int) (V O : Int → Int) : Int := if k < nt then (if wh = 0 then O k / 31 else if wh = 1 then O k % 31 - 15 + 100 else V (O k)) else -1
