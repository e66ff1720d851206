/-! the pure values of the objects, and their cells -/
abbrev CR : Type := Int32 × Int32 × Int64 × Int64 × Int64 × Int64 × Int64 × Int32 × Int32 × Int32 × Int32 × Int64 × Int64 × Int64
def C_me (c : CR) : Int32 := c.1
def C_ra (c : CR) : Int32 := c.2.1
def C_co (c : CR) : Int64 := c.2.2.1
def C_al (c : CR) : Int64 := c.2.2.2.1
def C_re (c : CR) : Int64 := c.2.2.2.2.1
def C_lo (c : CR) : Int64 := c.2.2.2.2.2.1
def C_rs (c : CR) : Int64 := c.2.2.2.2.2.2.1
def C_li (c : CR) : Int32 := c.2.2.2.2.2.2.2.1
def C_he (c : CR) : Int32 := c.2.2.2.2.2.2.2.2.1
def C_go (c : CR) : Int32 := c.2.2.2.2.2.2.2.2.2.1
def C_br (c : CR) : Int32 := c.2.2.2.2.2.2.2.2.2.2.1
def C_cu (c : CR) : Int64 := c.2.2.2.2.2.2.2.2.2.2.2.1
def C_lc (c : CR) : Int64 := c.2.2.2.2.2.2.2.2.2.2.2.2.1
def C_ac (c : CR) : Int64 := c.2.2.2.2.2.2.2.2.2.2.2.2.2
def C_mk (f_me : Int32) (f_ra : Int32) (f_co : Int64) (f_al : Int64) (f_re : Int64) (f_lo : Int64) (f_rs : Int64) (f_li : Int32) (f_he : Int32) (f_go : Int32) (f_br : Int32) (f_cu : Int64) (f_lc : Int64) (f_ac : Int64) : CR := (f_me, f_ra, f_co, f_al, f_re, f_lo, f_rs, f_li, f_he, f_go, f_br, f_cu, f_lc, f_ac)
theorem C_me_mk (f_me : Int32) (f_ra : Int32) (f_co : Int64) (f_al : Int64) (f_re : Int64) (f_lo : Int64) (f_rs : Int64) (f_li : Int32) (f_he : Int32) (f_go : Int32) (f_br : Int32) (f_cu : Int64) (f_lc : Int64) (f_ac : Int64) : C_me (C_mk f_me f_ra f_co f_al f_re f_lo f_rs f_li f_he f_go f_br f_cu f_lc f_ac) = f_me := rfl
theorem C_ra_mk (f_me : Int32) (f_ra : Int32) (f_co : Int64) (f_al : Int64) (f_re : Int64) (f_lo : Int64) (f_rs : Int64) (f_li : Int32) (f_he : Int32) (f_go : Int32) (f_br : Int32) (f_cu : Int64) (f_lc : Int64) (f_ac : Int64) : C_ra (C_mk f_me f_ra f_co f_al f_re f_lo f_rs f_li f_he f_go f_br f_cu f_lc f_ac) = f_ra := rfl
theorem C_co_mk (f_me : Int32) (f_ra : Int32) (f_co : Int64) (f_al : Int64) (f_re : Int64) (f_lo : Int64) (f_rs : Int64) (f_li : Int32) (f_he : Int32) (f_go : Int32) (f_br : Int32) (f_cu : Int64) (f_lc : Int64) (f_ac : Int64) : C_co (C_mk f_me f_ra f_co f_al f_re f_lo f_rs f_li f_he f_go f_br f_cu f_lc f_ac) = f_co := rfl
theorem C_al_mk (f_me : Int32) (f_ra : Int32) (f_co : Int64) (f_al : Int64) (f_re : Int64) (f_lo : Int64) (f_rs : Int64) (f_li : Int32) (f_he : Int32) (f_go : Int32) (f_br : Int32) (f_cu : Int64) (f_lc : Int64) (f_ac : Int64) : C_al (C_mk f_me f_ra f_co f_al f_re f_lo f_rs f_li f_he f_go f_br f_cu f_lc f_ac) = f_al := rfl
theorem C_re_mk (f_me : Int32) (f_ra : Int32) (f_co : Int64) (f_al : Int64) (f_re : Int64) (f_lo : Int64) (f_rs : Int64) (f_li : Int32) (f_he : Int32) (f_go : Int32) (f_br : Int32) (f_cu : Int64) (f_lc : Int64) (f_ac : Int64) : C_re (C_mk f_me f_ra f_co f_al f_re f_lo f_rs f_li f_he f_go f_br f_cu f_lc f_ac) = f_re := rfl
theorem C_lo_mk (f_me : Int32) (f_ra : Int32) (f_co : Int64) (f_al : Int64) (f_re : Int64) (f_lo : Int64) (f_rs : Int64) (f_li : Int32) (f_he : Int32) (f_go : Int32) (f_br : Int32) (f_cu : Int64) (f_lc : Int64) (f_ac : Int64) : C_lo (C_mk f_me f_ra f_co f_al f_re f_lo f_rs f_li f_he f_go f_br f_cu f_lc f_ac) = f_lo := rfl
theorem C_rs_mk (f_me : Int32) (f_ra : Int32) (f_co : Int64) (f_al : Int64) (f_re : Int64) (f_lo : Int64) (f_rs : Int64) (f_li : Int32) (f_he : Int32) (f_go : Int32) (f_br : Int32) (f_cu : Int64) (f_lc : Int64) (f_ac : Int64) : C_rs (C_mk f_me f_ra f_co f_al f_re f_lo f_rs f_li f_he f_go f_br f_cu f_lc f_ac) = f_rs := rfl
theorem C_li_mk (f_me : Int32) (f_ra : Int32) (f_co : Int64) (f_al : Int64) (f_re : Int64) (f_lo : Int64) (f_rs : Int64) (f_li : Int32) (f_he : Int32) (f_go : Int32) (f_br : Int32) (f_cu : Int64) (f_lc : Int64) (f_ac : Int64) : C_li (C_mk f_me f_ra f_co f_al f_re f_lo f_rs f_li f_he f_go f_br f_cu f_lc f_ac) = f_li := rfl
theorem C_he_mk (f_me : Int32) (f_ra : Int32) (f_co : Int64) (f_al : Int64) (f_re : Int64) (f_lo : Int64) (f_rs : Int64) (f_li : Int32) (f_he : Int32) (f_go : Int32) (f_br : Int32) (f_cu : Int64) (f_lc : Int64) (f_ac : Int64) : C_he (C_mk f_me f_ra f_co f_al f_re f_lo f_rs f_li f_he f_go f_br f_cu f_lc f_ac) = f_he := rfl
theorem C_go_mk (f_me : Int32) (f_ra : Int32) (f_co : Int64) (f_al : Int64) (f_re : Int64) (f_lo : Int64) (f_rs : Int64) (f_li : Int32) (f_he : Int32) (f_go : Int32) (f_br : Int32) (f_cu : Int64) (f_lc : Int64) (f_ac : Int64) : C_go (C_mk f_me f_ra f_co f_al f_re f_lo f_rs f_li f_he f_go f_br f_cu f_lc f_ac) = f_go := rfl
theorem C_br_mk (f_me : Int32) (f_ra : Int32) (f_co : Int64) (f_al : Int64) (f_re : Int64) (f_lo : Int64) (f_rs : Int64) (f_li : Int32) (f_he : Int32) (f_go : Int32) (f_br : Int32) (f_cu : Int64) (f_lc : Int64) (f_ac : Int64) : C_br (C_mk f_me f_ra f_co f_al f_re f_lo f_rs f_li f_he f_go f_br f_cu f_lc f_ac) = f_br := rfl
theorem C_cu_mk (f_me : Int32) (f_ra : Int32) (f_co : Int64) (f_al : Int64) (f_re : Int64) (f_lo : Int64) (f_rs : Int64) (f_li : Int32) (f_he : Int32) (f_go : Int32) (f_br : Int32) (f_cu : Int64) (f_lc : Int64) (f_ac : Int64) : C_cu (C_mk f_me f_ra f_co f_al f_re f_lo f_rs f_li f_he f_go f_br f_cu f_lc f_ac) = f_cu := rfl
theorem C_lc_mk (f_me : Int32) (f_ra : Int32) (f_co : Int64) (f_al : Int64) (f_re : Int64) (f_lo : Int64) (f_rs : Int64) (f_li : Int32) (f_he : Int32) (f_go : Int32) (f_br : Int32) (f_cu : Int64) (f_lc : Int64) (f_ac : Int64) : C_lc (C_mk f_me f_ra f_co f_al f_re f_lo f_rs f_li f_he f_go f_br f_cu f_lc f_ac) = f_lc := rfl
theorem C_ac_mk (f_me : Int32) (f_ra : Int32) (f_co : Int64) (f_al : Int64) (f_re : Int64) (f_lo : Int64) (f_rs : Int64) (f_li : Int32) (f_he : Int32) (f_go : Int32) (f_br : Int32) (f_cu : Int64) (f_lc : Int64) (f_ac : Int64) : C_ac (C_mk f_me f_ra f_co f_al f_re f_lo f_rs f_li f_he f_go f_br f_cu f_lc f_ac) = f_ac := rfl
abbrev kC (b : Nat) (f_me : Int32) (f_ra : Int32) (f_co : Int64) (f_al : Int64) (f_re : Int64) (f_lo : Int64) (f_rs : Int64) (f_li : Int32) (f_he : Int32) (f_go : Int32) (f_br : Int32) (f_cu : Int64) (f_lc : Int64) (f_ac : Int64) : va_E := .inr (0, [.ref b, .int f_me, .int f_ra, .long f_co, .long f_al, .long f_re, .long f_lo, .long f_rs, .int f_li, .int f_he, .int f_go, .int f_br, .long f_cu, .long f_lc, .long f_ac])
abbrev cC (b : Nat) (c : CR) : va_E := kC b (C_me c) (C_ra c) (C_co c) (C_al c) (C_re c) (C_lo c) (C_rs c) (C_li c) (C_he c) (C_go c) (C_br c) (C_cu c) (C_lc c) (C_ac c)
abbrev SR : Type := Int64 × Int64 × Int64 × Int64 × Int64 × Int64
def S_ba (c : SR) : Int64 := c.1
def S_le (c : SR) : Int64 := c.2.1
def S_ul (c : SR) : Int64 := c.2.2.1
def S_mo (c : SR) : Int64 := c.2.2.2.1
def S_un (c : SR) : Int64 := c.2.2.2.2.1
def S_ch (c : SR) : Int64 := c.2.2.2.2.2
def S_mk (f_ba : Int64) (f_le : Int64) (f_ul : Int64) (f_mo : Int64) (f_un : Int64) (f_ch : Int64) : SR := (f_ba, f_le, f_ul, f_mo, f_un, f_ch)
theorem S_ba_mk (f_ba : Int64) (f_le : Int64) (f_ul : Int64) (f_mo : Int64) (f_un : Int64) (f_ch : Int64) : S_ba (S_mk f_ba f_le f_ul f_mo f_un f_ch) = f_ba := rfl
theorem S_le_mk (f_ba : Int64) (f_le : Int64) (f_ul : Int64) (f_mo : Int64) (f_un : Int64) (f_ch : Int64) : S_le (S_mk f_ba f_le f_ul f_mo f_un f_ch) = f_le := rfl
theorem S_ul_mk (f_ba : Int64) (f_le : Int64) (f_ul : Int64) (f_mo : Int64) (f_un : Int64) (f_ch : Int64) : S_ul (S_mk f_ba f_le f_ul f_mo f_un f_ch) = f_ul := rfl
theorem S_mo_mk (f_ba : Int64) (f_le : Int64) (f_ul : Int64) (f_mo : Int64) (f_un : Int64) (f_ch : Int64) : S_mo (S_mk f_ba f_le f_ul f_mo f_un f_ch) = f_mo := rfl
theorem S_un_mk (f_ba : Int64) (f_le : Int64) (f_ul : Int64) (f_mo : Int64) (f_un : Int64) (f_ch : Int64) : S_un (S_mk f_ba f_le f_ul f_mo f_un f_ch) = f_un := rfl
theorem S_ch_mk (f_ba : Int64) (f_le : Int64) (f_ul : Int64) (f_mo : Int64) (f_un : Int64) (f_ch : Int64) : S_ch (S_mk f_ba f_le f_ul f_mo f_un f_ch) = f_ch := rfl
abbrev kS (f_ba : Int64) (f_le : Int64) (f_ul : Int64) (f_mo : Int64) (f_un : Int64) (f_ch : Int64) : va_E := .inr (3, [.long f_ba, .long f_le, .long f_ul, .long f_mo, .long f_un, .long f_ch])
abbrev cS (c : SR) : va_E := kS (S_ba c) (S_le c) (S_ul c) (S_mo c) (S_un c) (S_ch c)
abbrev ER : Type := Int32 × Int32 × Int32 × Int64 × Int32
def E_pn (c : ER) : Int32 := c.1
def E_mo (c : ER) : Int32 := c.2.1
def E_ki (c : ER) : Int32 := c.2.2.1
def E_am (c : ER) : Int64 := c.2.2.2.1
def E_nu (c : ER) : Int32 := c.2.2.2.2
def E_mk (f_pn : Int32) (f_mo : Int32) (f_ki : Int32) (f_am : Int64) (f_nu : Int32) : ER := (f_pn, f_mo, f_ki, f_am, f_nu)
theorem E_pn_mk (f_pn : Int32) (f_mo : Int32) (f_ki : Int32) (f_am : Int64) (f_nu : Int32) : E_pn (E_mk f_pn f_mo f_ki f_am f_nu) = f_pn := rfl
theorem E_mo_mk (f_pn : Int32) (f_mo : Int32) (f_ki : Int32) (f_am : Int64) (f_nu : Int32) : E_mo (E_mk f_pn f_mo f_ki f_am f_nu) = f_mo := rfl
theorem E_ki_mk (f_pn : Int32) (f_mo : Int32) (f_ki : Int32) (f_am : Int64) (f_nu : Int32) : E_ki (E_mk f_pn f_mo f_ki f_am f_nu) = f_ki := rfl
theorem E_am_mk (f_pn : Int32) (f_mo : Int32) (f_ki : Int32) (f_am : Int64) (f_nu : Int32) : E_am (E_mk f_pn f_mo f_ki f_am f_nu) = f_am := rfl
theorem E_nu_mk (f_pn : Int32) (f_mo : Int32) (f_ki : Int32) (f_am : Int64) (f_nu : Int32) : E_nu (E_mk f_pn f_mo f_ki f_am f_nu) = f_nu := rfl
abbrev kE (f_pn : Int32) (f_mo : Int32) (f_ki : Int32) (f_am : Int64) (f_nu : Int32) : va_E := .inr (1, [.int f_pn, .int f_mo, .int f_ki, .long f_am, .int f_nu])
abbrev cE (c : ER) : va_E := kE (E_pn c) (E_mo c) (E_ki c) (E_am c) (E_nu c)
abbrev PR : Type := Int64 × Int64 × Int32 × Int32 × Int32 × Int32 × Int32 × Int64
def P_co (c : PR) : Int64 := c.1
def P_rs (c : PR) : Int64 := c.2.1
def P_fi (c : PR) : Int32 := c.2.2.1
def P_li (c : PR) : Int32 := c.2.2.2.1
def P_me (c : PR) : Int32 := c.2.2.2.2.1
def P_ra (c : PR) : Int32 := c.2.2.2.2.2.1
def P_ec (c : PR) : Int32 := c.2.2.2.2.2.2.1
def P_pa (c : PR) : Int64 := c.2.2.2.2.2.2.2
def P_mk (f_co : Int64) (f_rs : Int64) (f_fi : Int32) (f_li : Int32) (f_me : Int32) (f_ra : Int32) (f_ec : Int32) (f_pa : Int64) : PR := (f_co, f_rs, f_fi, f_li, f_me, f_ra, f_ec, f_pa)
theorem P_co_mk (f_co : Int64) (f_rs : Int64) (f_fi : Int32) (f_li : Int32) (f_me : Int32) (f_ra : Int32) (f_ec : Int32) (f_pa : Int64) : P_co (P_mk f_co f_rs f_fi f_li f_me f_ra f_ec f_pa) = f_co := rfl
theorem P_rs_mk (f_co : Int64) (f_rs : Int64) (f_fi : Int32) (f_li : Int32) (f_me : Int32) (f_ra : Int32) (f_ec : Int32) (f_pa : Int64) : P_rs (P_mk f_co f_rs f_fi f_li f_me f_ra f_ec f_pa) = f_rs := rfl
theorem P_fi_mk (f_co : Int64) (f_rs : Int64) (f_fi : Int32) (f_li : Int32) (f_me : Int32) (f_ra : Int32) (f_ec : Int32) (f_pa : Int64) : P_fi (P_mk f_co f_rs f_fi f_li f_me f_ra f_ec f_pa) = f_fi := rfl
theorem P_li_mk (f_co : Int64) (f_rs : Int64) (f_fi : Int32) (f_li : Int32) (f_me : Int32) (f_ra : Int32) (f_ec : Int32) (f_pa : Int64) : P_li (P_mk f_co f_rs f_fi f_li f_me f_ra f_ec f_pa) = f_li := rfl
theorem P_me_mk (f_co : Int64) (f_rs : Int64) (f_fi : Int32) (f_li : Int32) (f_me : Int32) (f_ra : Int32) (f_ec : Int32) (f_pa : Int64) : P_me (P_mk f_co f_rs f_fi f_li f_me f_ra f_ec f_pa) = f_me := rfl
theorem P_ra_mk (f_co : Int64) (f_rs : Int64) (f_fi : Int32) (f_li : Int32) (f_me : Int32) (f_ra : Int32) (f_ec : Int32) (f_pa : Int64) : P_ra (P_mk f_co f_rs f_fi f_li f_me f_ra f_ec f_pa) = f_ra := rfl
theorem P_ec_mk (f_co : Int64) (f_rs : Int64) (f_fi : Int32) (f_li : Int32) (f_me : Int32) (f_ra : Int32) (f_ec : Int32) (f_pa : Int64) : P_ec (P_mk f_co f_rs f_fi f_li f_me f_ra f_ec f_pa) = f_ec := rfl
theorem P_pa_mk (f_co : Int64) (f_rs : Int64) (f_fi : Int32) (f_li : Int32) (f_me : Int32) (f_ra : Int32) (f_ec : Int32) (f_pa : Int64) : P_pa (P_mk f_co f_rs f_fi f_li f_me f_ra f_ec f_pa) = f_pa := rfl
abbrev kP (u w q : Nat) (f_co : Int64) (f_rs : Int64) (f_fi : Int32) (f_li : Int32) (f_me : Int32) (f_ra : Int32) (f_ec : Int32) (f_pa : Int64) : va_E := .inr (2, [.long f_co, .long f_rs, .int f_fi, .int f_li, .int f_me, .int f_ra, .ref u, .ref w, .ref q, .int f_ec, .long f_pa])
abbrev cP (u w q : Nat) (c : PR) : va_E := kP u w q (P_co c) (P_rs c) (P_fi c) (P_li c) (P_me c) (P_ra c) (P_ec c) (P_pa c)
abbrev AR : Type := Int32 × Int32 × Int32
def A_pc (c : AR) : Int32 := c.1
def A_ec (c : AR) : Int32 := c.2.1
def A_mc (c : AR) : Int32 := c.2.2
def A_mk (f_pc : Int32) (f_ec : Int32) (f_mc : Int32) : AR := (f_pc, f_ec, f_mc)
theorem A_pc_mk (f_pc : Int32) (f_ec : Int32) (f_mc : Int32) : A_pc (A_mk f_pc f_ec f_mc) = f_pc := rfl
theorem A_ec_mk (f_pc : Int32) (f_ec : Int32) (f_mc : Int32) : A_ec (A_mk f_pc f_ec f_mc) = f_ec := rfl
theorem A_mc_mk (f_pc : Int32) (f_ec : Int32) (f_mc : Int32) : A_mc (A_mk f_pc f_ec f_mc) = f_mc := rfl
abbrev kA (rf : Nat → Nat) (f_pc : Int32) (f_ec : Int32) (f_mc : Int32) : va_E := .inr (4, [.ref (rf 0), .ref (rf 1), .ref (rf 2), .ref (rf 3), .int f_pc, .int f_ec, .int f_mc])
abbrev cA (rf : Nat → Nat) (c : AR) : va_E := kA rf (A_pc c) (A_ec c) (A_mc c)
abbrev MR : Type := Int32 × Int32 × Int32 × Int32 × Int64 × Int64 × Int64 × Int64 × Int64 × Int32 × Int32 × Int32 × Int32 × Int64 × Int32 × Int32 × Int32 × Int32 × Int64 × Int64 × Int64 × Int32
def M_cd (c : MR) : Int32 := c.1
def M_pt (c : MR) : Int32 := c.2.1
def M_mn (c : MR) : Int32 := c.2.2.1
def M_ev (c : MR) : Int32 := c.2.2.2.1
def M_co (c : MR) : Int64 := c.2.2.2.2.1
def M_al (c : MR) : Int64 := c.2.2.2.2.2.1
def M_re (c : MR) : Int64 := c.2.2.2.2.2.2.1
def M_lo (c : MR) : Int64 := c.2.2.2.2.2.2.2.1
def M_rs (c : MR) : Int64 := c.2.2.2.2.2.2.2.2.1
def M_li (c : MR) : Int32 := c.2.2.2.2.2.2.2.2.2.1
def M_he (c : MR) : Int32 := c.2.2.2.2.2.2.2.2.2.2.1
def M_go (c : MR) : Int32 := c.2.2.2.2.2.2.2.2.2.2.2.1
def M_sp (c : MR) : Int32 := c.2.2.2.2.2.2.2.2.2.2.2.2.1
def M_ba (c : MR) : Int64 := c.2.2.2.2.2.2.2.2.2.2.2.2.2.1
def M_le (c : MR) : Int32 := c.2.2.2.2.2.2.2.2.2.2.2.2.2.2.1
def M_lf (c : MR) : Int32 := c.2.2.2.2.2.2.2.2.2.2.2.2.2.2.2.1
def M_mo (c : MR) : Int32 := c.2.2.2.2.2.2.2.2.2.2.2.2.2.2.2.2.1
def M_un (c : MR) : Int32 := c.2.2.2.2.2.2.2.2.2.2.2.2.2.2.2.2.2.1
def M_ch (c : MR) : Int64 := c.2.2.2.2.2.2.2.2.2.2.2.2.2.2.2.2.2.2.1
def M_lc (c : MR) : Int64 := c.2.2.2.2.2.2.2.2.2.2.2.2.2.2.2.2.2.2.2.1
def M_ac (c : MR) : Int64 := c.2.2.2.2.2.2.2.2.2.2.2.2.2.2.2.2.2.2.2.2.1
def M_bd (c : MR) : Int32 := c.2.2.2.2.2.2.2.2.2.2.2.2.2.2.2.2.2.2.2.2.2
def M_mk (f_cd : Int32) (f_pt : Int32) (f_mn : Int32) (f_ev : Int32) (f_co : Int64) (f_al : Int64) (f_re : Int64) (f_lo : Int64) (f_rs : Int64) (f_li : Int32) (f_he : Int32) (f_go : Int32) (f_sp : Int32) (f_ba : Int64) (f_le : Int32) (f_lf : Int32) (f_mo : Int32) (f_un : Int32) (f_ch : Int64) (f_lc : Int64) (f_ac : Int64) (f_bd : Int32) : MR := (f_cd, f_pt, f_mn, f_ev, f_co, f_al, f_re, f_lo, f_rs, f_li, f_he, f_go, f_sp, f_ba, f_le, f_lf, f_mo, f_un, f_ch, f_lc, f_ac, f_bd)
theorem M_cd_mk (f_cd : Int32) (f_pt : Int32) (f_mn : Int32) (f_ev : Int32) (f_co : Int64) (f_al : Int64) (f_re : Int64) (f_lo : Int64) (f_rs : Int64) (f_li : Int32) (f_he : Int32) (f_go : Int32) (f_sp : Int32) (f_ba : Int64) (f_le : Int32) (f_lf : Int32) (f_mo : Int32) (f_un : Int32) (f_ch : Int64) (f_lc : Int64) (f_ac : Int64) (f_bd : Int32) : M_cd (M_mk f_cd f_pt f_mn f_ev f_co f_al f_re f_lo f_rs f_li f_he f_go f_sp f_ba f_le f_lf f_mo f_un f_ch f_lc f_ac f_bd) = f_cd := rfl
theorem M_pt_mk (f_cd : Int32) (f_pt : Int32) (f_mn : Int32) (f_ev : Int32) (f_co : Int64) (f_al : Int64) (f_re : Int64) (f_lo : Int64) (f_rs : Int64) (f_li : Int32) (f_he : Int32) (f_go : Int32) (f_sp : Int32) (f_ba : Int64) (f_le : Int32) (f_lf : Int32) (f_mo : Int32) (f_un : Int32) (f_ch : Int64) (f_lc : Int64) (f_ac : Int64) (f_bd : Int32) : M_pt (M_mk f_cd f_pt f_mn f_ev f_co f_al f_re f_lo f_rs f_li f_he f_go f_sp f_ba f_le f_lf f_mo f_un f_ch f_lc f_ac f_bd) = f_pt := rfl
theorem M_mn_mk (f_cd : Int32) (f_pt : Int32) (f_mn : Int32) (f_ev : Int32) (f_co : Int64) (f_al : Int64) (f_re : Int64) (f_lo : Int64) (f_rs : Int64) (f_li : Int32) (f_he : Int32) (f_go : Int32) (f_sp : Int32) (f_ba : Int64) (f_le : Int32) (f_lf : Int32) (f_mo : Int32) (f_un : Int32) (f_ch : Int64) (f_lc : Int64) (f_ac : Int64) (f_bd : Int32) : M_mn (M_mk f_cd f_pt f_mn f_ev f_co f_al f_re f_lo f_rs f_li f_he f_go f_sp f_ba f_le f_lf f_mo f_un f_ch f_lc f_ac f_bd) = f_mn := rfl
theorem M_ev_mk (f_cd : Int32) (f_pt : Int32) (f_mn : Int32) (f_ev : Int32) (f_co : Int64) (f_al : Int64) (f_re : Int64) (f_lo : Int64) (f_rs : Int64) (f_li : Int32) (f_he : Int32) (f_go : Int32) (f_sp : Int32) (f_ba : Int64) (f_le : Int32) (f_lf : Int32) (f_mo : Int32) (f_un : Int32) (f_ch : Int64) (f_lc : Int64) (f_ac : Int64) (f_bd : Int32) : M_ev (M_mk f_cd f_pt f_mn f_ev f_co f_al f_re f_lo f_rs f_li f_he f_go f_sp f_ba f_le f_lf f_mo f_un f_ch f_lc f_ac f_bd) = f_ev := rfl
theorem M_co_mk (f_cd : Int32) (f_pt : Int32) (f_mn : Int32) (f_ev : Int32) (f_co : Int64) (f_al : Int64) (f_re : Int64) (f_lo : Int64) (f_rs : Int64) (f_li : Int32) (f_he : Int32) (f_go : Int32) (f_sp : Int32) (f_ba : Int64) (f_le : Int32) (f_lf : Int32) (f_mo : Int32) (f_un : Int32) (f_ch : Int64) (f_lc : Int64) (f_ac : Int64) (f_bd : Int32) : M_co (M_mk f_cd f_pt f_mn f_ev f_co f_al f_re f_lo f_rs f_li f_he f_go f_sp f_ba f_le f_lf f_mo f_un f_ch f_lc f_ac f_bd) = f_co := rfl
theorem M_al_mk (f_cd : Int32) (f_pt : Int32) (f_mn : Int32) (f_ev : Int32) (f_co : Int64) (f_al : Int64) (f_re : Int64) (f_lo : Int64) (f_rs : Int64) (f_li : Int32) (f_he : Int32) (f_go : Int32) (f_sp : Int32) (f_ba : Int64) (f_le : Int32) (f_lf : Int32) (f_mo : Int32) (f_un : Int32) (f_ch : Int64) (f_lc : Int64) (f_ac : Int64) (f_bd : Int32) : M_al (M_mk f_cd f_pt f_mn f_ev f_co f_al f_re f_lo f_rs f_li f_he f_go f_sp f_ba f_le f_lf f_mo f_un f_ch f_lc f_ac f_bd) = f_al := rfl
theorem M_re_mk (f_cd : Int32) (f_pt : Int32) (f_mn : Int32) (f_ev : Int32) (f_co : Int64) (f_al : Int64) (f_re : Int64) (f_lo : Int64) (f_rs : Int64) (f_li : Int32) (f_he : Int32) (f_go : Int32) (f_sp : Int32) (f_ba : Int64) (f_le : Int32) (f_lf : Int32) (f_mo : Int32) (f_un : Int32) (f_ch : Int64) (f_lc : Int64) (f_ac : Int64) (f_bd : Int32) : M_re (M_mk f_cd f_pt f_mn f_ev f_co f_al f_re f_lo f_rs f_li f_he f_go f_sp f_ba f_le f_lf f_mo f_un f_ch f_lc f_ac f_bd) = f_re := rfl
theorem M_lo_mk (f_cd : Int32) (f_pt : Int32) (f_mn : Int32) (f_ev : Int32) (f_co : Int64) (f_al : Int64) (f_re : Int64) (f_lo : Int64) (f_rs : Int64) (f_li : Int32) (f_he : Int32) (f_go : Int32) (f_sp : Int32) (f_ba : Int64) (f_le : Int32) (f_lf : Int32) (f_mo : Int32) (f_un : Int32) (f_ch : Int64) (f_lc : Int64) (f_ac : Int64) (f_bd : Int32) : M_lo (M_mk f_cd f_pt f_mn f_ev f_co f_al f_re f_lo f_rs f_li f_he f_go f_sp f_ba f_le f_lf f_mo f_un f_ch f_lc f_ac f_bd) = f_lo := rfl
theorem M_rs_mk (f_cd : Int32) (f_pt : Int32) (f_mn : Int32) (f_ev : Int32) (f_co : Int64) (f_al : Int64) (f_re : Int64) (f_lo : Int64) (f_rs : Int64) (f_li : Int32) (f_he : Int32) (f_go : Int32) (f_sp : Int32) (f_ba : Int64) (f_le : Int32) (f_lf : Int32) (f_mo : Int32) (f_un : Int32) (f_ch : Int64) (f_lc : Int64) (f_ac : Int64) (f_bd : Int32) : M_rs (M_mk f_cd f_pt f_mn f_ev f_co f_al f_re f_lo f_rs f_li f_he f_go f_sp f_ba f_le f_lf f_mo f_un f_ch f_lc f_ac f_bd) = f_rs := rfl
theorem M_li_mk (f_cd : Int32) (f_pt : Int32) (f_mn : Int32) (f_ev : Int32) (f_co : Int64) (f_al : Int64) (f_re : Int64) (f_lo : Int64) (f_rs : Int64) (f_li : Int32) (f_he : Int32) (f_go : Int32) (f_sp : Int32) (f_ba : Int64) (f_le : Int32) (f_lf : Int32) (f_mo : Int32) (f_un : Int32) (f_ch : Int64) (f_lc : Int64) (f_ac : Int64) (f_bd : Int32) : M_li (M_mk f_cd f_pt f_mn f_ev f_co f_al f_re f_lo f_rs f_li f_he f_go f_sp f_ba f_le f_lf f_mo f_un f_ch f_lc f_ac f_bd) = f_li := rfl
theorem M_he_mk (f_cd : Int32) (f_pt : Int32) (f_mn : Int32) (f_ev : Int32) (f_co : Int64) (f_al : Int64) (f_re : Int64) (f_lo : Int64) (f_rs : Int64) (f_li : Int32) (f_he : Int32) (f_go : Int32) (f_sp : Int32) (f_ba : Int64) (f_le : Int32) (f_lf : Int32) (f_mo : Int32) (f_un : Int32) (f_ch : Int64) (f_lc : Int64) (f_ac : Int64) (f_bd : Int32) : M_he (M_mk f_cd f_pt f_mn f_ev f_co f_al f_re f_lo f_rs f_li f_he f_go f_sp f_ba f_le f_lf f_mo f_un f_ch f_lc f_ac f_bd) = f_he := rfl
theorem M_go_mk (f_cd : Int32) (f_pt : Int32) (f_mn : Int32) (f_ev : Int32) (f_co : Int64) (f_al : Int64) (f_re : Int64) (f_lo : Int64) (f_rs : Int64) (f_li : Int32) (f_he : Int32) (f_go : Int32) (f_sp : Int32) (f_ba : Int64) (f_le : Int32) (f_lf : Int32) (f_mo : Int32) (f_un : Int32) (f_ch : Int64) (f_lc : Int64) (f_ac : Int64) (f_bd : Int32) : M_go (M_mk f_cd f_pt f_mn f_ev f_co f_al f_re f_lo f_rs f_li f_he f_go f_sp f_ba f_le f_lf f_mo f_un f_ch f_lc f_ac f_bd) = f_go := rfl
theorem M_sp_mk (f_cd : Int32) (f_pt : Int32) (f_mn : Int32) (f_ev : Int32) (f_co : Int64) (f_al : Int64) (f_re : Int64) (f_lo : Int64) (f_rs : Int64) (f_li : Int32) (f_he : Int32) (f_go : Int32) (f_sp : Int32) (f_ba : Int64) (f_le : Int32) (f_lf : Int32) (f_mo : Int32) (f_un : Int32) (f_ch : Int64) (f_lc : Int64) (f_ac : Int64) (f_bd : Int32) : M_sp (M_mk f_cd f_pt f_mn f_ev f_co f_al f_re f_lo f_rs f_li f_he f_go f_sp f_ba f_le f_lf f_mo f_un f_ch f_lc f_ac f_bd) = f_sp := rfl
theorem M_ba_mk (f_cd : Int32) (f_pt : Int32) (f_mn : Int32) (f_ev : Int32) (f_co : Int64) (f_al : Int64) (f_re : Int64) (f_lo : Int64) (f_rs : Int64) (f_li : Int32) (f_he : Int32) (f_go : Int32) (f_sp : Int32) (f_ba : Int64) (f_le : Int32) (f_lf : Int32) (f_mo : Int32) (f_un : Int32) (f_ch : Int64) (f_lc : Int64) (f_ac : Int64) (f_bd : Int32) : M_ba (M_mk f_cd f_pt f_mn f_ev f_co f_al f_re f_lo f_rs f_li f_he f_go f_sp f_ba f_le f_lf f_mo f_un f_ch f_lc f_ac f_bd) = f_ba := rfl
theorem M_le_mk (f_cd : Int32) (f_pt : Int32) (f_mn : Int32) (f_ev : Int32) (f_co : Int64) (f_al : Int64) (f_re : Int64) (f_lo : Int64) (f_rs : Int64) (f_li : Int32) (f_he : Int32) (f_go : Int32) (f_sp : Int32) (f_ba : Int64) (f_le : Int32) (f_lf : Int32) (f_mo : Int32) (f_un : Int32) (f_ch : Int64) (f_lc : Int64) (f_ac : Int64) (f_bd : Int32) : M_le (M_mk f_cd f_pt f_mn f_ev f_co f_al f_re f_lo f_rs f_li f_he f_go f_sp f_ba f_le f_lf f_mo f_un f_ch f_lc f_ac f_bd) = f_le := rfl
theorem M_lf_mk (f_cd : Int32) (f_pt : Int32) (f_mn : Int32) (f_ev : Int32) (f_co : Int64) (f_al : Int64) (f_re : Int64) (f_lo : Int64) (f_rs : Int64) (f_li : Int32) (f_he : Int32) (f_go : Int32) (f_sp : Int32) (f_ba : Int64) (f_le : Int32) (f_lf : Int32) (f_mo : Int32) (f_un : Int32) (f_ch : Int64) (f_lc : Int64) (f_ac : Int64) (f_bd : Int32) : M_lf (M_mk f_cd f_pt f_mn f_ev f_co f_al f_re f_lo f_rs f_li f_he f_go f_sp f_ba f_le f_lf f_mo f_un f_ch f_lc f_ac f_bd) = f_lf := rfl
theorem M_mo_mk (f_cd : Int32) (f_pt : Int32) (f_mn : Int32) (f_ev : Int32) (f_co : Int64) (f_al : Int64) (f_re : Int64) (f_lo : Int64) (f_rs : Int64) (f_li : Int32) (f_he : Int32) (f_go : Int32) (f_sp : Int32) (f_ba : Int64) (f_le : Int32) (f_lf : Int32) (f_mo : Int32) (f_un : Int32) (f_ch : Int64) (f_lc : Int64) (f_ac : Int64) (f_bd : Int32) : M_mo (M_mk f_cd f_pt f_mn f_ev f_co f_al f_re f_lo f_rs f_li f_he f_go f_sp f_ba f_le f_lf f_mo f_un f_ch f_lc f_ac f_bd) = f_mo := rfl
theorem M_un_mk (f_cd : Int32) (f_pt : Int32) (f_mn : Int32) (f_ev : Int32) (f_co : Int64) (f_al : Int64) (f_re : Int64) (f_lo : Int64) (f_rs : Int64) (f_li : Int32) (f_he : Int32) (f_go : Int32) (f_sp : Int32) (f_ba : Int64) (f_le : Int32) (f_lf : Int32) (f_mo : Int32) (f_un : Int32) (f_ch : Int64) (f_lc : Int64) (f_ac : Int64) (f_bd : Int32) : M_un (M_mk f_cd f_pt f_mn f_ev f_co f_al f_re f_lo f_rs f_li f_he f_go f_sp f_ba f_le f_lf f_mo f_un f_ch f_lc f_ac f_bd) = f_un := rfl
theorem M_ch_mk (f_cd : Int32) (f_pt : Int32) (f_mn : Int32) (f_ev : Int32) (f_co : Int64) (f_al : Int64) (f_re : Int64) (f_lo : Int64) (f_rs : Int64) (f_li : Int32) (f_he : Int32) (f_go : Int32) (f_sp : Int32) (f_ba : Int64) (f_le : Int32) (f_lf : Int32) (f_mo : Int32) (f_un : Int32) (f_ch : Int64) (f_lc : Int64) (f_ac : Int64) (f_bd : Int32) : M_ch (M_mk f_cd f_pt f_mn f_ev f_co f_al f_re f_lo f_rs f_li f_he f_go f_sp f_ba f_le f_lf f_mo f_un f_ch f_lc f_ac f_bd) = f_ch := rfl
theorem M_lc_mk (f_cd : Int32) (f_pt : Int32) (f_mn : Int32) (f_ev : Int32) (f_co : Int64) (f_al : Int64) (f_re : Int64) (f_lo : Int64) (f_rs : Int64) (f_li : Int32) (f_he : Int32) (f_go : Int32) (f_sp : Int32) (f_ba : Int64) (f_le : Int32) (f_lf : Int32) (f_mo : Int32) (f_un : Int32) (f_ch : Int64) (f_lc : Int64) (f_ac : Int64) (f_bd : Int32) : M_lc (M_mk f_cd f_pt f_mn f_ev f_co f_al f_re f_lo f_rs f_li f_he f_go f_sp f_ba f_le f_lf f_mo f_un f_ch f_lc f_ac f_bd) = f_lc := rfl
theorem M_ac_mk (f_cd : Int32) (f_pt : Int32) (f_mn : Int32) (f_ev : Int32) (f_co : Int64) (f_al : Int64) (f_re : Int64) (f_lo : Int64) (f_rs : Int64) (f_li : Int32) (f_he : Int32) (f_go : Int32) (f_sp : Int32) (f_ba : Int64) (f_le : Int32) (f_lf : Int32) (f_mo : Int32) (f_un : Int32) (f_ch : Int64) (f_lc : Int64) (f_ac : Int64) (f_bd : Int32) : M_ac (M_mk f_cd f_pt f_mn f_ev f_co f_al f_re f_lo f_rs f_li f_he f_go f_sp f_ba f_le f_lf f_mo f_un f_ch f_lc f_ac f_bd) = f_ac := rfl
theorem M_bd_mk (f_cd : Int32) (f_pt : Int32) (f_mn : Int32) (f_ev : Int32) (f_co : Int64) (f_al : Int64) (f_re : Int64) (f_lo : Int64) (f_rs : Int64) (f_li : Int32) (f_he : Int32) (f_go : Int32) (f_sp : Int32) (f_ba : Int64) (f_le : Int32) (f_lf : Int32) (f_mo : Int32) (f_un : Int32) (f_ch : Int64) (f_lc : Int64) (f_ac : Int64) (f_bd : Int32) : M_bd (M_mk f_cd f_pt f_mn f_ev f_co f_al f_re f_lo f_rs f_li f_he f_go f_sp f_ba f_le f_lf f_mo f_un f_ch f_lc f_ac f_bd) = f_bd := rfl
abbrev kM (rf : Nat → Nat) (f_cd : Int32) (f_pt : Int32) (f_mn : Int32) (f_ev : Int32) (f_co : Int64) (f_al : Int64) (f_re : Int64) (f_lo : Int64) (f_rs : Int64) (f_li : Int32) (f_he : Int32) (f_go : Int32) (f_sp : Int32) (f_ba : Int64) (f_le : Int32) (f_lf : Int32) (f_mo : Int32) (f_un : Int32) (f_ch : Int64) (f_lc : Int64) (f_ac : Int64) (f_bd : Int32) : va_E := .inr (5, [.int f_cd, .int f_pt, .ref (rf 0), .ref (rf 1), .ref (rf 2), .ref (rf 3), .ref (rf 4), .ref (rf 5), .ref (rf 6), .ref (rf 7), .int f_mn, .int f_ev, .ref (rf 8), .ref (rf 9), .ref (rf 10), .ref (rf 11), .ref (rf 12), .long f_co, .long f_al, .long f_re, .long f_lo, .long f_rs, .int f_li, .int f_he, .int f_go, .int f_sp, .long f_ba, .int f_le, .int f_lf, .int f_mo, .int f_un, .long f_ch, .long f_lc, .long f_ac, .ref (rf 13), .ref (rf 14), .int f_bd])
abbrev cM (rf : Nat → Nat) (c : MR) : va_E := kM rf (M_cd c) (M_pt c) (M_mn c) (M_ev c) (M_co c) (M_al c) (M_re c) (M_lo c) (M_rs c) (M_li c) (M_he c) (M_go c) (M_sp c) (M_ba c) (M_le c) (M_lf c) (M_mo c) (M_un c) (M_ch c) (M_lc c) (M_ac c) (M_bd c)
abbrev TR : Type := (Nat → Int64) × (Nat → Int64) × (Nat → Int32) × (Nat → Int32) × (Nat → Int32) × (Nat → Int32) × (Nat → Int32) × (Nat → Int64) × (Nat → Int32) × (Nat → Int32) × (Nat → Int32) × (Nat → Int64) × (Nat → Int32) × (Nat → Int64) × (Nat → Int64)
def T_cs (c : TR) : Nat → Int64 := c.1
def T_rs (c : TR) : Nat → Int64 := c.2.1
def T_fi (c : TR) : Nat → Int32 := c.2.2.1
def T_li (c : TR) : Nat → Int32 := c.2.2.2.1
def T_me (c : TR) : Nat → Int32 := c.2.2.2.2.1
def T_ra (c : TR) : Nat → Int32 := c.2.2.2.2.2.1
def T_us (c : TR) : Nat → Int32 := c.2.2.2.2.2.2.1
def T_po (c : TR) : Nat → Int64 := c.2.2.2.2.2.2.2.1
def T_of (c : TR) : Nat → Int32 := c.2.2.2.2.2.2.2.2.1
def T_wh (c : TR) : Nat → Int32 := c.2.2.2.2.2.2.2.2.2.1
def T_ki (c : TR) : Nat → Int32 := c.2.2.2.2.2.2.2.2.2.2.1
def T_am (c : TR) : Nat → Int64 := c.2.2.2.2.2.2.2.2.2.2.2.1
def T_nu (c : TR) : Nat → Int32 := c.2.2.2.2.2.2.2.2.2.2.2.2.1
def T_bf (c : TR) : Nat → Int64 := c.2.2.2.2.2.2.2.2.2.2.2.2.2.1
def T_bh (c : TR) : Nat → Int64 := c.2.2.2.2.2.2.2.2.2.2.2.2.2.2
def T_s_cs (c : TR) (v : Nat → Int64) : TR := (v, c.2)
def T_s_rs (c : TR) (v : Nat → Int64) : TR := (c.1, v, c.2.2)
def T_s_fi (c : TR) (v : Nat → Int32) : TR := (c.1, c.2.1, v, c.2.2.2)
def T_s_li (c : TR) (v : Nat → Int32) : TR := (c.1, c.2.1, c.2.2.1, v, c.2.2.2.2)
def T_s_me (c : TR) (v : Nat → Int32) : TR := (c.1, c.2.1, c.2.2.1, c.2.2.2.1, v, c.2.2.2.2.2)
def T_s_ra (c : TR) (v : Nat → Int32) : TR := (c.1, c.2.1, c.2.2.1, c.2.2.2.1, c.2.2.2.2.1, v, c.2.2.2.2.2.2)
def T_s_us (c : TR) (v : Nat → Int32) : TR := (c.1, c.2.1, c.2.2.1, c.2.2.2.1, c.2.2.2.2.1, c.2.2.2.2.2.1, v, c.2.2.2.2.2.2.2)
def T_s_po (c : TR) (v : Nat → Int64) : TR := (c.1, c.2.1, c.2.2.1, c.2.2.2.1, c.2.2.2.2.1, c.2.2.2.2.2.1, c.2.2.2.2.2.2.1, v, c.2.2.2.2.2.2.2.2)
def T_s_of (c : TR) (v : Nat → Int32) : TR := (c.1, c.2.1, c.2.2.1, c.2.2.2.1, c.2.2.2.2.1, c.2.2.2.2.2.1, c.2.2.2.2.2.2.1, c.2.2.2.2.2.2.2.1, v, c.2.2.2.2.2.2.2.2.2)
def T_s_wh (c : TR) (v : Nat → Int32) : TR := (c.1, c.2.1, c.2.2.1, c.2.2.2.1, c.2.2.2.2.1, c.2.2.2.2.2.1, c.2.2.2.2.2.2.1, c.2.2.2.2.2.2.2.1, c.2.2.2.2.2.2.2.2.1, v, c.2.2.2.2.2.2.2.2.2.2)
def T_s_ki (c : TR) (v : Nat → Int32) : TR := (c.1, c.2.1, c.2.2.1, c.2.2.2.1, c.2.2.2.2.1, c.2.2.2.2.2.1, c.2.2.2.2.2.2.1, c.2.2.2.2.2.2.2.1, c.2.2.2.2.2.2.2.2.1, c.2.2.2.2.2.2.2.2.2.1, v, c.2.2.2.2.2.2.2.2.2.2.2)
def T_s_am (c : TR) (v : Nat → Int64) : TR := (c.1, c.2.1, c.2.2.1, c.2.2.2.1, c.2.2.2.2.1, c.2.2.2.2.2.1, c.2.2.2.2.2.2.1, c.2.2.2.2.2.2.2.1, c.2.2.2.2.2.2.2.2.1, c.2.2.2.2.2.2.2.2.2.1, c.2.2.2.2.2.2.2.2.2.2.1, v, c.2.2.2.2.2.2.2.2.2.2.2.2)
def T_s_nu (c : TR) (v : Nat → Int32) : TR := (c.1, c.2.1, c.2.2.1, c.2.2.2.1, c.2.2.2.2.1, c.2.2.2.2.2.1, c.2.2.2.2.2.2.1, c.2.2.2.2.2.2.2.1, c.2.2.2.2.2.2.2.2.1, c.2.2.2.2.2.2.2.2.2.1, c.2.2.2.2.2.2.2.2.2.2.1, c.2.2.2.2.2.2.2.2.2.2.2.1, v, c.2.2.2.2.2.2.2.2.2.2.2.2.2)
def T_s_bf (c : TR) (v : Nat → Int64) : TR := (c.1, c.2.1, c.2.2.1, c.2.2.2.1, c.2.2.2.2.1, c.2.2.2.2.2.1, c.2.2.2.2.2.2.1, c.2.2.2.2.2.2.2.1, c.2.2.2.2.2.2.2.2.1, c.2.2.2.2.2.2.2.2.2.1, c.2.2.2.2.2.2.2.2.2.2.1, c.2.2.2.2.2.2.2.2.2.2.2.1, c.2.2.2.2.2.2.2.2.2.2.2.2.1, v, c.2.2.2.2.2.2.2.2.2.2.2.2.2.2)
def T_s_bh (c : TR) (v : Nat → Int64) : TR := (c.1, c.2.1, c.2.2.1, c.2.2.2.1, c.2.2.2.2.1, c.2.2.2.2.2.1, c.2.2.2.2.2.2.1, c.2.2.2.2.2.2.2.1, c.2.2.2.2.2.2.2.2.1, c.2.2.2.2.2.2.2.2.2.1, c.2.2.2.2.2.2.2.2.2.2.1, c.2.2.2.2.2.2.2.2.2.2.2.1, c.2.2.2.2.2.2.2.2.2.2.2.2.1, c.2.2.2.2.2.2.2.2.2.2.2.2.2.1, v)
/-- the reference and its rows -/
def mT (G : pw_G) (rf : Nat → Nat) (T : TR) : va_W := [(rf 0, .inl (G.2.2.1, 6, .inr (.inl (T_cs T)))), (rf 1, .inl (G.2.2.1, 6, .inr (.inl (T_rs T)))), (rf 2, .inl (G.2.1, 6, .inl (T_fi T))), (rf 3, .inl (G.2.1, 6, .inl (T_li T))), (rf 4, .inl (G.2.1, 6, .inl (T_me T))), (rf 5, .inl (G.2.1, 6, .inl (T_ra T))), (rf 6, .inl (G.2.1, 216, .inl (T_us T))), (rf 7, .inl (G.2.2.1, 216, .inr (.inl (T_po T)))), (rf 8, .inl (G.2.1, 40, .inl (T_of T))), (rf 9, .inl (G.2.1, 40, .inl (T_wh T))), (rf 10, .inl (G.2.1, 40, .inl (T_ki T))), (rf 11, .inl (G.2.2.1, 40, .inr (.inl (T_am T)))), (rf 12, .inl (G.2.1, 40, .inl (T_nu T))), (rf 13, .inl (G.2.2.1, 36, .inr (.inl (T_bf T)))), (rf 14, .inl (G.2.2.1, 36, .inr (.inl (T_bh T))))]
def mX (G : pw_G) (m : Nat) (rf : Nat → Nat) (c : MR) (T : TR) : va_W := (m, cM rf c) :: mT G rf T
theorem mX_mk {G : pw_G} {m : Nat} {rf : Nat → Nat} {T : TR} {f_cd : Int32} {f_pt : Int32} {f_mn : Int32} {f_ev : Int32} {f_co : Int64} {f_al : Int64} {f_re : Int64} {f_lo : Int64} {f_rs : Int64} {f_li : Int32} {f_he : Int32} {f_go : Int32} {f_sp : Int32} {f_ba : Int64} {f_le : Int32} {f_lf : Int32} {f_mo : Int32} {f_un : Int32} {f_ch : Int64} {f_lc : Int64} {f_ac : Int64} {f_bd : Int32} : ((m, kM rf f_cd f_pt f_mn f_ev f_co f_al f_re f_lo f_rs f_li f_he f_go f_sp f_ba f_le f_lf f_mo f_un f_ch f_lc f_ac f_bd) :: mT G rf T) = mX G m rf (M_mk f_cd f_pt f_mn f_ev f_co f_al f_re f_lo f_rs f_li f_he f_go f_sp f_ba f_le f_lf f_mo f_un f_ch f_lc f_ac f_bd) T := rfl
theorem mT_s_cs {G : pw_G} {m : Nat} {e : va_E} {rf : Nat → Nat} {T : TR} {v : Nat → Int64} : ((m, e) :: mT G rf T).set 1 (rf 0, .inl (G.2.2.1, 6, .inr (.inl v))) = (m, e) :: mT G rf (T_s_cs T v) := rfl
theorem T_cs_s_cs (T : TR) (v : Nat → Int64) : T_cs (T_s_cs T v) = v := rfl
theorem T_rs_s_cs (T : TR) (v : Nat → Int64) : T_rs (T_s_cs T v) = T_rs T := rfl
theorem T_fi_s_cs (T : TR) (v : Nat → Int64) : T_fi (T_s_cs T v) = T_fi T := rfl
theorem T_li_s_cs (T : TR) (v : Nat → Int64) : T_li (T_s_cs T v) = T_li T := rfl
theorem T_me_s_cs (T : TR) (v : Nat → Int64) : T_me (T_s_cs T v) = T_me T := rfl
theorem T_ra_s_cs (T : TR) (v : Nat → Int64) : T_ra (T_s_cs T v) = T_ra T := rfl
theorem T_us_s_cs (T : TR) (v : Nat → Int64) : T_us (T_s_cs T v) = T_us T := rfl
theorem T_po_s_cs (T : TR) (v : Nat → Int64) : T_po (T_s_cs T v) = T_po T := rfl
theorem T_of_s_cs (T : TR) (v : Nat → Int64) : T_of (T_s_cs T v) = T_of T := rfl
theorem T_wh_s_cs (T : TR) (v : Nat → Int64) : T_wh (T_s_cs T v) = T_wh T := rfl
theorem T_ki_s_cs (T : TR) (v : Nat → Int64) : T_ki (T_s_cs T v) = T_ki T := rfl
theorem T_am_s_cs (T : TR) (v : Nat → Int64) : T_am (T_s_cs T v) = T_am T := rfl
theorem T_nu_s_cs (T : TR) (v : Nat → Int64) : T_nu (T_s_cs T v) = T_nu T := rfl
theorem T_bf_s_cs (T : TR) (v : Nat → Int64) : T_bf (T_s_cs T v) = T_bf T := rfl
theorem T_bh_s_cs (T : TR) (v : Nat → Int64) : T_bh (T_s_cs T v) = T_bh T := rfl
theorem mT_s_rs {G : pw_G} {m : Nat} {e : va_E} {rf : Nat → Nat} {T : TR} {v : Nat → Int64} : ((m, e) :: mT G rf T).set 2 (rf 1, .inl (G.2.2.1, 6, .inr (.inl v))) = (m, e) :: mT G rf (T_s_rs T v) := rfl
theorem T_cs_s_rs (T : TR) (v : Nat → Int64) : T_cs (T_s_rs T v) = T_cs T := rfl
theorem T_rs_s_rs (T : TR) (v : Nat → Int64) : T_rs (T_s_rs T v) = v := rfl
theorem T_fi_s_rs (T : TR) (v : Nat → Int64) : T_fi (T_s_rs T v) = T_fi T := rfl
theorem T_li_s_rs (T : TR) (v : Nat → Int64) : T_li (T_s_rs T v) = T_li T := rfl
theorem T_me_s_rs (T : TR) (v : Nat → Int64) : T_me (T_s_rs T v) = T_me T := rfl
theorem T_ra_s_rs (T : TR) (v : Nat → Int64) : T_ra (T_s_rs T v) = T_ra T := rfl
theorem T_us_s_rs (T : TR) (v : Nat → Int64) : T_us (T_s_rs T v) = T_us T := rfl
theorem T_po_s_rs (T : TR) (v : Nat → Int64) : T_po (T_s_rs T v) = T_po T := rfl
theorem T_of_s_rs (T : TR) (v : Nat → Int64) : T_of (T_s_rs T v) = T_of T := rfl
theorem T_wh_s_rs (T : TR) (v : Nat → Int64) : T_wh (T_s_rs T v) = T_wh T := rfl
theorem T_ki_s_rs (T : TR) (v : Nat → Int64) : T_ki (T_s_rs T v) = T_ki T := rfl
theorem T_am_s_rs (T : TR) (v : Nat → Int64) : T_am (T_s_rs T v) = T_am T := rfl
theorem T_nu_s_rs (T : TR) (v : Nat → Int64) : T_nu (T_s_rs T v) = T_nu T := rfl
theorem T_bf_s_rs (T : TR) (v : Nat → Int64) : T_bf (T_s_rs T v) = T_bf T := rfl
theorem T_bh_s_rs (T : TR) (v : Nat → Int64) : T_bh (T_s_rs T v) = T_bh T := rfl
theorem mT_s_fi {G : pw_G} {m : Nat} {e : va_E} {rf : Nat → Nat} {T : TR} {v : Nat → Int32} : ((m, e) :: mT G rf T).set 3 (rf 2, .inl (G.2.1, 6, .inl v)) = (m, e) :: mT G rf (T_s_fi T v) := rfl
theorem T_cs_s_fi (T : TR) (v : Nat → Int32) : T_cs (T_s_fi T v) = T_cs T := rfl
theorem T_rs_s_fi (T : TR) (v : Nat → Int32) : T_rs (T_s_fi T v) = T_rs T := rfl
theorem T_fi_s_fi (T : TR) (v : Nat → Int32) : T_fi (T_s_fi T v) = v := rfl
theorem T_li_s_fi (T : TR) (v : Nat → Int32) : T_li (T_s_fi T v) = T_li T := rfl
theorem T_me_s_fi (T : TR) (v : Nat → Int32) : T_me (T_s_fi T v) = T_me T := rfl
theorem T_ra_s_fi (T : TR) (v : Nat → Int32) : T_ra (T_s_fi T v) = T_ra T := rfl
theorem T_us_s_fi (T : TR) (v : Nat → Int32) : T_us (T_s_fi T v) = T_us T := rfl
theorem T_po_s_fi (T : TR) (v : Nat → Int32) : T_po (T_s_fi T v) = T_po T := rfl
theorem T_of_s_fi (T : TR) (v : Nat → Int32) : T_of (T_s_fi T v) = T_of T := rfl
theorem T_wh_s_fi (T : TR) (v : Nat → Int32) : T_wh (T_s_fi T v) = T_wh T := rfl
theorem T_ki_s_fi (T : TR) (v : Nat → Int32) : T_ki (T_s_fi T v) = T_ki T := rfl
theorem T_am_s_fi (T : TR) (v : Nat → Int32) : T_am (T_s_fi T v) = T_am T := rfl
theorem T_nu_s_fi (T : TR) (v : Nat → Int32) : T_nu (T_s_fi T v) = T_nu T := rfl
theorem T_bf_s_fi (T : TR) (v : Nat → Int32) : T_bf (T_s_fi T v) = T_bf T := rfl
theorem T_bh_s_fi (T : TR) (v : Nat → Int32) : T_bh (T_s_fi T v) = T_bh T := rfl
theorem mT_s_li {G : pw_G} {m : Nat} {e : va_E} {rf : Nat → Nat} {T : TR} {v : Nat → Int32} : ((m, e) :: mT G rf T).set 4 (rf 3, .inl (G.2.1, 6, .inl v)) = (m, e) :: mT G rf (T_s_li T v) := rfl
theorem T_cs_s_li (T : TR) (v : Nat → Int32) : T_cs (T_s_li T v) = T_cs T := rfl
theorem T_rs_s_li (T : TR) (v : Nat → Int32) : T_rs (T_s_li T v) = T_rs T := rfl
theorem T_fi_s_li (T : TR) (v : Nat → Int32) : T_fi (T_s_li T v) = T_fi T := rfl
theorem T_li_s_li (T : TR) (v : Nat → Int32) : T_li (T_s_li T v) = v := rfl
theorem T_me_s_li (T : TR) (v : Nat → Int32) : T_me (T_s_li T v) = T_me T := rfl
theorem T_ra_s_li (T : TR) (v : Nat → Int32) : T_ra (T_s_li T v) = T_ra T := rfl
theorem T_us_s_li (T : TR) (v : Nat → Int32) : T_us (T_s_li T v) = T_us T := rfl
theorem T_po_s_li (T : TR) (v : Nat → Int32) : T_po (T_s_li T v) = T_po T := rfl
theorem T_of_s_li (T : TR) (v : Nat → Int32) : T_of (T_s_li T v) = T_of T := rfl
theorem T_wh_s_li (T : TR) (v : Nat → Int32) : T_wh (T_s_li T v) = T_wh T := rfl
theorem T_ki_s_li (T : TR) (v : Nat → Int32) : T_ki (T_s_li T v) = T_ki T := rfl
theorem T_am_s_li (T : TR) (v : Nat → Int32) : T_am (T_s_li T v) = T_am T := rfl
theorem T_nu_s_li (T : TR) (v : Nat → Int32) : T_nu (T_s_li T v) = T_nu T := rfl
theorem T_bf_s_li (T : TR) (v : Nat → Int32) : T_bf (T_s_li T v) = T_bf T := rfl
theorem T_bh_s_li (T : TR) (v : Nat → Int32) : T_bh (T_s_li T v) = T_bh T := rfl
theorem mT_s_me {G : pw_G} {m : Nat} {e : va_E} {rf : Nat → Nat} {T : TR} {v : Nat → Int32} : ((m, e) :: mT G rf T).set 5 (rf 4, .inl (G.2.1, 6, .inl v)) = (m, e) :: mT G rf (T_s_me T v) := rfl
theorem T_cs_s_me (T : TR) (v : Nat → Int32) : T_cs (T_s_me T v) = T_cs T := rfl
theorem T_rs_s_me (T : TR) (v : Nat → Int32) : T_rs (T_s_me T v) = T_rs T := rfl
theorem T_fi_s_me (T : TR) (v : Nat → Int32) : T_fi (T_s_me T v) = T_fi T := rfl
theorem T_li_s_me (T : TR) (v : Nat → Int32) : T_li (T_s_me T v) = T_li T := rfl
theorem T_me_s_me (T : TR) (v : Nat → Int32) : T_me (T_s_me T v) = v := rfl
theorem T_ra_s_me (T : TR) (v : Nat → Int32) : T_ra (T_s_me T v) = T_ra T := rfl
theorem T_us_s_me (T : TR) (v : Nat → Int32) : T_us (T_s_me T v) = T_us T := rfl
theorem T_po_s_me (T : TR) (v : Nat → Int32) : T_po (T_s_me T v) = T_po T := rfl
theorem T_of_s_me (T : TR) (v : Nat → Int32) : T_of (T_s_me T v) = T_of T := rfl
theorem T_wh_s_me (T : TR) (v : Nat → Int32) : T_wh (T_s_me T v) = T_wh T := rfl
theorem T_ki_s_me (T : TR) (v : Nat → Int32) : T_ki (T_s_me T v) = T_ki T := rfl
theorem T_am_s_me (T : TR) (v : Nat → Int32) : T_am (T_s_me T v) = T_am T := rfl
theorem T_nu_s_me (T : TR) (v : Nat → Int32) : T_nu (T_s_me T v) = T_nu T := rfl
theorem T_bf_s_me (T : TR) (v : Nat → Int32) : T_bf (T_s_me T v) = T_bf T := rfl
theorem T_bh_s_me (T : TR) (v : Nat → Int32) : T_bh (T_s_me T v) = T_bh T := rfl
theorem mT_s_ra {G : pw_G} {m : Nat} {e : va_E} {rf : Nat → Nat} {T : TR} {v : Nat → Int32} : ((m, e) :: mT G rf T).set 6 (rf 5, .inl (G.2.1, 6, .inl v)) = (m, e) :: mT G rf (T_s_ra T v) := rfl
theorem T_cs_s_ra (T : TR) (v : Nat → Int32) : T_cs (T_s_ra T v) = T_cs T := rfl
theorem T_rs_s_ra (T : TR) (v : Nat → Int32) : T_rs (T_s_ra T v) = T_rs T := rfl
theorem T_fi_s_ra (T : TR) (v : Nat → Int32) : T_fi (T_s_ra T v) = T_fi T := rfl
theorem T_li_s_ra (T : TR) (v : Nat → Int32) : T_li (T_s_ra T v) = T_li T := rfl
theorem T_me_s_ra (T : TR) (v : Nat → Int32) : T_me (T_s_ra T v) = T_me T := rfl
theorem T_ra_s_ra (T : TR) (v : Nat → Int32) : T_ra (T_s_ra T v) = v := rfl
theorem T_us_s_ra (T : TR) (v : Nat → Int32) : T_us (T_s_ra T v) = T_us T := rfl
theorem T_po_s_ra (T : TR) (v : Nat → Int32) : T_po (T_s_ra T v) = T_po T := rfl
theorem T_of_s_ra (T : TR) (v : Nat → Int32) : T_of (T_s_ra T v) = T_of T := rfl
theorem T_wh_s_ra (T : TR) (v : Nat → Int32) : T_wh (T_s_ra T v) = T_wh T := rfl
theorem T_ki_s_ra (T : TR) (v : Nat → Int32) : T_ki (T_s_ra T v) = T_ki T := rfl
theorem T_am_s_ra (T : TR) (v : Nat → Int32) : T_am (T_s_ra T v) = T_am T := rfl
theorem T_nu_s_ra (T : TR) (v : Nat → Int32) : T_nu (T_s_ra T v) = T_nu T := rfl
theorem T_bf_s_ra (T : TR) (v : Nat → Int32) : T_bf (T_s_ra T v) = T_bf T := rfl
theorem T_bh_s_ra (T : TR) (v : Nat → Int32) : T_bh (T_s_ra T v) = T_bh T := rfl
theorem mT_s_us {G : pw_G} {m : Nat} {e : va_E} {rf : Nat → Nat} {T : TR} {v : Nat → Int32} : ((m, e) :: mT G rf T).set 7 (rf 6, .inl (G.2.1, 216, .inl v)) = (m, e) :: mT G rf (T_s_us T v) := rfl
theorem T_cs_s_us (T : TR) (v : Nat → Int32) : T_cs (T_s_us T v) = T_cs T := rfl
theorem T_rs_s_us (T : TR) (v : Nat → Int32) : T_rs (T_s_us T v) = T_rs T := rfl
theorem T_fi_s_us (T : TR) (v : Nat → Int32) : T_fi (T_s_us T v) = T_fi T := rfl
theorem T_li_s_us (T : TR) (v : Nat → Int32) : T_li (T_s_us T v) = T_li T := rfl
theorem T_me_s_us (T : TR) (v : Nat → Int32) : T_me (T_s_us T v) = T_me T := rfl
theorem T_ra_s_us (T : TR) (v : Nat → Int32) : T_ra (T_s_us T v) = T_ra T := rfl
theorem T_us_s_us (T : TR) (v : Nat → Int32) : T_us (T_s_us T v) = v := rfl
theorem T_po_s_us (T : TR) (v : Nat → Int32) : T_po (T_s_us T v) = T_po T := rfl
theorem T_of_s_us (T : TR) (v : Nat → Int32) : T_of (T_s_us T v) = T_of T := rfl
theorem T_wh_s_us (T : TR) (v : Nat → Int32) : T_wh (T_s_us T v) = T_wh T := rfl
theorem T_ki_s_us (T : TR) (v : Nat → Int32) : T_ki (T_s_us T v) = T_ki T := rfl
theorem T_am_s_us (T : TR) (v : Nat → Int32) : T_am (T_s_us T v) = T_am T := rfl
theorem T_nu_s_us (T : TR) (v : Nat → Int32) : T_nu (T_s_us T v) = T_nu T := rfl
theorem T_bf_s_us (T : TR) (v : Nat → Int32) : T_bf (T_s_us T v) = T_bf T := rfl
theorem T_bh_s_us (T : TR) (v : Nat → Int32) : T_bh (T_s_us T v) = T_bh T := rfl
theorem mT_s_po {G : pw_G} {m : Nat} {e : va_E} {rf : Nat → Nat} {T : TR} {v : Nat → Int64} : ((m, e) :: mT G rf T).set 8 (rf 7, .inl (G.2.2.1, 216, .inr (.inl v))) = (m, e) :: mT G rf (T_s_po T v) := rfl
theorem T_cs_s_po (T : TR) (v : Nat → Int64) : T_cs (T_s_po T v) = T_cs T := rfl
theorem T_rs_s_po (T : TR) (v : Nat → Int64) : T_rs (T_s_po T v) = T_rs T := rfl
theorem T_fi_s_po (T : TR) (v : Nat → Int64) : T_fi (T_s_po T v) = T_fi T := rfl
theorem T_li_s_po (T : TR) (v : Nat → Int64) : T_li (T_s_po T v) = T_li T := rfl
theorem T_me_s_po (T : TR) (v : Nat → Int64) : T_me (T_s_po T v) = T_me T := rfl
theorem T_ra_s_po (T : TR) (v : Nat → Int64) : T_ra (T_s_po T v) = T_ra T := rfl
theorem T_us_s_po (T : TR) (v : Nat → Int64) : T_us (T_s_po T v) = T_us T := rfl
theorem T_po_s_po (T : TR) (v : Nat → Int64) : T_po (T_s_po T v) = v := rfl
theorem T_of_s_po (T : TR) (v : Nat → Int64) : T_of (T_s_po T v) = T_of T := rfl
theorem T_wh_s_po (T : TR) (v : Nat → Int64) : T_wh (T_s_po T v) = T_wh T := rfl
theorem T_ki_s_po (T : TR) (v : Nat → Int64) : T_ki (T_s_po T v) = T_ki T := rfl
theorem T_am_s_po (T : TR) (v : Nat → Int64) : T_am (T_s_po T v) = T_am T := rfl
theorem T_nu_s_po (T : TR) (v : Nat → Int64) : T_nu (T_s_po T v) = T_nu T := rfl
theorem T_bf_s_po (T : TR) (v : Nat → Int64) : T_bf (T_s_po T v) = T_bf T := rfl
theorem T_bh_s_po (T : TR) (v : Nat → Int64) : T_bh (T_s_po T v) = T_bh T := rfl
theorem mT_s_of {G : pw_G} {m : Nat} {e : va_E} {rf : Nat → Nat} {T : TR} {v : Nat → Int32} : ((m, e) :: mT G rf T).set 9 (rf 8, .inl (G.2.1, 40, .inl v)) = (m, e) :: mT G rf (T_s_of T v) := rfl
theorem T_cs_s_of (T : TR) (v : Nat → Int32) : T_cs (T_s_of T v) = T_cs T := rfl
theorem T_rs_s_of (T : TR) (v : Nat → Int32) : T_rs (T_s_of T v) = T_rs T := rfl
theorem T_fi_s_of (T : TR) (v : Nat → Int32) : T_fi (T_s_of T v) = T_fi T := rfl
theorem T_li_s_of (T : TR) (v : Nat → Int32) : T_li (T_s_of T v) = T_li T := rfl
theorem T_me_s_of (T : TR) (v : Nat → Int32) : T_me (T_s_of T v) = T_me T := rfl
theorem T_ra_s_of (T : TR) (v : Nat → Int32) : T_ra (T_s_of T v) = T_ra T := rfl
theorem T_us_s_of (T : TR) (v : Nat → Int32) : T_us (T_s_of T v) = T_us T := rfl
theorem T_po_s_of (T : TR) (v : Nat → Int32) : T_po (T_s_of T v) = T_po T := rfl
theorem T_of_s_of (T : TR) (v : Nat → Int32) : T_of (T_s_of T v) = v := rfl
theorem T_wh_s_of (T : TR) (v : Nat → Int32) : T_wh (T_s_of T v) = T_wh T := rfl
theorem T_ki_s_of (T : TR) (v : Nat → Int32) : T_ki (T_s_of T v) = T_ki T := rfl
theorem T_am_s_of (T : TR) (v : Nat → Int32) : T_am (T_s_of T v) = T_am T := rfl
theorem T_nu_s_of (T : TR) (v : Nat → Int32) : T_nu (T_s_of T v) = T_nu T := rfl
theorem T_bf_s_of (T : TR) (v : Nat → Int32) : T_bf (T_s_of T v) = T_bf T := rfl
theorem T_bh_s_of (T : TR) (v : Nat → Int32) : T_bh (T_s_of T v) = T_bh T := rfl
theorem mT_s_wh {G : pw_G} {m : Nat} {e : va_E} {rf : Nat → Nat} {T : TR} {v : Nat → Int32} : ((m, e) :: mT G rf T).set 10 (rf 9, .inl (G.2.1, 40, .inl v)) = (m, e) :: mT G rf (T_s_wh T v) := rfl
theorem T_cs_s_wh (T : TR) (v : Nat → Int32) : T_cs (T_s_wh T v) = T_cs T := rfl
theorem T_rs_s_wh (T : TR) (v : Nat → Int32) : T_rs (T_s_wh T v) = T_rs T := rfl
theorem T_fi_s_wh (T : TR) (v : Nat → Int32) : T_fi (T_s_wh T v) = T_fi T := rfl
theorem T_li_s_wh (T : TR) (v : Nat → Int32) : T_li (T_s_wh T v) = T_li T := rfl
theorem T_me_s_wh (T : TR) (v : Nat → Int32) : T_me (T_s_wh T v) = T_me T := rfl
theorem T_ra_s_wh (T : TR) (v : Nat → Int32) : T_ra (T_s_wh T v) = T_ra T := rfl
theorem T_us_s_wh (T : TR) (v : Nat → Int32) : T_us (T_s_wh T v) = T_us T := rfl
theorem T_po_s_wh (T : TR) (v : Nat → Int32) : T_po (T_s_wh T v) = T_po T := rfl
theorem T_of_s_wh (T : TR) (v : Nat → Int32) : T_of (T_s_wh T v) = T_of T := rfl
theorem T_wh_s_wh (T : TR) (v : Nat → Int32) : T_wh (T_s_wh T v) = v := rfl
theorem T_ki_s_wh (T : TR) (v : Nat → Int32) : T_ki (T_s_wh T v) = T_ki T := rfl
theorem T_am_s_wh (T : TR) (v : Nat → Int32) : T_am (T_s_wh T v) = T_am T := rfl
theorem T_nu_s_wh (T : TR) (v : Nat → Int32) : T_nu (T_s_wh T v) = T_nu T := rfl
theorem T_bf_s_wh (T : TR) (v : Nat → Int32) : T_bf (T_s_wh T v) = T_bf T := rfl
theorem T_bh_s_wh (T : TR) (v : Nat → Int32) : T_bh (T_s_wh T v) = T_bh T := rfl
theorem mT_s_ki {G : pw_G} {m : Nat} {e : va_E} {rf : Nat → Nat} {T : TR} {v : Nat → Int32} : ((m, e) :: mT G rf T).set 11 (rf 10, .inl (G.2.1, 40, .inl v)) = (m, e) :: mT G rf (T_s_ki T v) := rfl
theorem T_cs_s_ki (T : TR) (v : Nat → Int32) : T_cs (T_s_ki T v) = T_cs T := rfl
theorem T_rs_s_ki (T : TR) (v : Nat → Int32) : T_rs (T_s_ki T v) = T_rs T := rfl
theorem T_fi_s_ki (T : TR) (v : Nat → Int32) : T_fi (T_s_ki T v) = T_fi T := rfl
theorem T_li_s_ki (T : TR) (v : Nat → Int32) : T_li (T_s_ki T v) = T_li T := rfl
theorem T_me_s_ki (T : TR) (v : Nat → Int32) : T_me (T_s_ki T v) = T_me T := rfl
theorem T_ra_s_ki (T : TR) (v : Nat → Int32) : T_ra (T_s_ki T v) = T_ra T := rfl
theorem T_us_s_ki (T : TR) (v : Nat → Int32) : T_us (T_s_ki T v) = T_us T := rfl
theorem T_po_s_ki (T : TR) (v : Nat → Int32) : T_po (T_s_ki T v) = T_po T := rfl
theorem T_of_s_ki (T : TR) (v : Nat → Int32) : T_of (T_s_ki T v) = T_of T := rfl
theorem T_wh_s_ki (T : TR) (v : Nat → Int32) : T_wh (T_s_ki T v) = T_wh T := rfl
theorem T_ki_s_ki (T : TR) (v : Nat → Int32) : T_ki (T_s_ki T v) = v := rfl
theorem T_am_s_ki (T : TR) (v : Nat → Int32) : T_am (T_s_ki T v) = T_am T := rfl
theorem T_nu_s_ki (T : TR) (v : Nat → Int32) : T_nu (T_s_ki T v) = T_nu T := rfl
theorem T_bf_s_ki (T : TR) (v : Nat → Int32) : T_bf (T_s_ki T v) = T_bf T := rfl
theorem T_bh_s_ki (T : TR) (v : Nat → Int32) : T_bh (T_s_ki T v) = T_bh T := rfl
theorem mT_s_am {G : pw_G} {m : Nat} {e : va_E} {rf : Nat → Nat} {T : TR} {v : Nat → Int64} : ((m, e) :: mT G rf T).set 12 (rf 11, .inl (G.2.2.1, 40, .inr (.inl v))) = (m, e) :: mT G rf (T_s_am T v) := rfl
theorem T_cs_s_am (T : TR) (v : Nat → Int64) : T_cs (T_s_am T v) = T_cs T := rfl
theorem T_rs_s_am (T : TR) (v : Nat → Int64) : T_rs (T_s_am T v) = T_rs T := rfl
theorem T_fi_s_am (T : TR) (v : Nat → Int64) : T_fi (T_s_am T v) = T_fi T := rfl
theorem T_li_s_am (T : TR) (v : Nat → Int64) : T_li (T_s_am T v) = T_li T := rfl
theorem T_me_s_am (T : TR) (v : Nat → Int64) : T_me (T_s_am T v) = T_me T := rfl
theorem T_ra_s_am (T : TR) (v : Nat → Int64) : T_ra (T_s_am T v) = T_ra T := rfl
theorem T_us_s_am (T : TR) (v : Nat → Int64) : T_us (T_s_am T v) = T_us T := rfl
theorem T_po_s_am (T : TR) (v : Nat → Int64) : T_po (T_s_am T v) = T_po T := rfl
theorem T_of_s_am (T : TR) (v : Nat → Int64) : T_of (T_s_am T v) = T_of T := rfl
theorem T_wh_s_am (T : TR) (v : Nat → Int64) : T_wh (T_s_am T v) = T_wh T := rfl
theorem T_ki_s_am (T : TR) (v : Nat → Int64) : T_ki (T_s_am T v) = T_ki T := rfl
theorem T_am_s_am (T : TR) (v : Nat → Int64) : T_am (T_s_am T v) = v := rfl
theorem T_nu_s_am (T : TR) (v : Nat → Int64) : T_nu (T_s_am T v) = T_nu T := rfl
theorem T_bf_s_am (T : TR) (v : Nat → Int64) : T_bf (T_s_am T v) = T_bf T := rfl
theorem T_bh_s_am (T : TR) (v : Nat → Int64) : T_bh (T_s_am T v) = T_bh T := rfl
theorem mT_s_nu {G : pw_G} {m : Nat} {e : va_E} {rf : Nat → Nat} {T : TR} {v : Nat → Int32} : ((m, e) :: mT G rf T).set 13 (rf 12, .inl (G.2.1, 40, .inl v)) = (m, e) :: mT G rf (T_s_nu T v) := rfl
theorem T_cs_s_nu (T : TR) (v : Nat → Int32) : T_cs (T_s_nu T v) = T_cs T := rfl
theorem T_rs_s_nu (T : TR) (v : Nat → Int32) : T_rs (T_s_nu T v) = T_rs T := rfl
theorem T_fi_s_nu (T : TR) (v : Nat → Int32) : T_fi (T_s_nu T v) = T_fi T := rfl
theorem T_li_s_nu (T : TR) (v : Nat → Int32) : T_li (T_s_nu T v) = T_li T := rfl
theorem T_me_s_nu (T : TR) (v : Nat → Int32) : T_me (T_s_nu T v) = T_me T := rfl
theorem T_ra_s_nu (T : TR) (v : Nat → Int32) : T_ra (T_s_nu T v) = T_ra T := rfl
theorem T_us_s_nu (T : TR) (v : Nat → Int32) : T_us (T_s_nu T v) = T_us T := rfl
theorem T_po_s_nu (T : TR) (v : Nat → Int32) : T_po (T_s_nu T v) = T_po T := rfl
theorem T_of_s_nu (T : TR) (v : Nat → Int32) : T_of (T_s_nu T v) = T_of T := rfl
theorem T_wh_s_nu (T : TR) (v : Nat → Int32) : T_wh (T_s_nu T v) = T_wh T := rfl
theorem T_ki_s_nu (T : TR) (v : Nat → Int32) : T_ki (T_s_nu T v) = T_ki T := rfl
theorem T_am_s_nu (T : TR) (v : Nat → Int32) : T_am (T_s_nu T v) = T_am T := rfl
theorem T_nu_s_nu (T : TR) (v : Nat → Int32) : T_nu (T_s_nu T v) = v := rfl
theorem T_bf_s_nu (T : TR) (v : Nat → Int32) : T_bf (T_s_nu T v) = T_bf T := rfl
theorem T_bh_s_nu (T : TR) (v : Nat → Int32) : T_bh (T_s_nu T v) = T_bh T := rfl
theorem mT_s_bf {G : pw_G} {m : Nat} {e : va_E} {rf : Nat → Nat} {T : TR} {v : Nat → Int64} : ((m, e) :: mT G rf T).set 14 (rf 13, .inl (G.2.2.1, 36, .inr (.inl v))) = (m, e) :: mT G rf (T_s_bf T v) := rfl
theorem T_cs_s_bf (T : TR) (v : Nat → Int64) : T_cs (T_s_bf T v) = T_cs T := rfl
theorem T_rs_s_bf (T : TR) (v : Nat → Int64) : T_rs (T_s_bf T v) = T_rs T := rfl
theorem T_fi_s_bf (T : TR) (v : Nat → Int64) : T_fi (T_s_bf T v) = T_fi T := rfl
theorem T_li_s_bf (T : TR) (v : Nat → Int64) : T_li (T_s_bf T v) = T_li T := rfl
theorem T_me_s_bf (T : TR) (v : Nat → Int64) : T_me (T_s_bf T v) = T_me T := rfl
theorem T_ra_s_bf (T : TR) (v : Nat → Int64) : T_ra (T_s_bf T v) = T_ra T := rfl
theorem T_us_s_bf (T : TR) (v : Nat → Int64) : T_us (T_s_bf T v) = T_us T := rfl
theorem T_po_s_bf (T : TR) (v : Nat → Int64) : T_po (T_s_bf T v) = T_po T := rfl
theorem T_of_s_bf (T : TR) (v : Nat → Int64) : T_of (T_s_bf T v) = T_of T := rfl
theorem T_wh_s_bf (T : TR) (v : Nat → Int64) : T_wh (T_s_bf T v) = T_wh T := rfl
theorem T_ki_s_bf (T : TR) (v : Nat → Int64) : T_ki (T_s_bf T v) = T_ki T := rfl
theorem T_am_s_bf (T : TR) (v : Nat → Int64) : T_am (T_s_bf T v) = T_am T := rfl
theorem T_nu_s_bf (T : TR) (v : Nat → Int64) : T_nu (T_s_bf T v) = T_nu T := rfl
theorem T_bf_s_bf (T : TR) (v : Nat → Int64) : T_bf (T_s_bf T v) = v := rfl
theorem T_bh_s_bf (T : TR) (v : Nat → Int64) : T_bh (T_s_bf T v) = T_bh T := rfl
theorem mT_s_bh {G : pw_G} {m : Nat} {e : va_E} {rf : Nat → Nat} {T : TR} {v : Nat → Int64} : ((m, e) :: mT G rf T).set 15 (rf 14, .inl (G.2.2.1, 36, .inr (.inl v))) = (m, e) :: mT G rf (T_s_bh T v) := rfl
theorem T_cs_s_bh (T : TR) (v : Nat → Int64) : T_cs (T_s_bh T v) = T_cs T := rfl
theorem T_rs_s_bh (T : TR) (v : Nat → Int64) : T_rs (T_s_bh T v) = T_rs T := rfl
theorem T_fi_s_bh (T : TR) (v : Nat → Int64) : T_fi (T_s_bh T v) = T_fi T := rfl
theorem T_li_s_bh (T : TR) (v : Nat → Int64) : T_li (T_s_bh T v) = T_li T := rfl
theorem T_me_s_bh (T : TR) (v : Nat → Int64) : T_me (T_s_bh T v) = T_me T := rfl
theorem T_ra_s_bh (T : TR) (v : Nat → Int64) : T_ra (T_s_bh T v) = T_ra T := rfl
theorem T_us_s_bh (T : TR) (v : Nat → Int64) : T_us (T_s_bh T v) = T_us T := rfl
theorem T_po_s_bh (T : TR) (v : Nat → Int64) : T_po (T_s_bh T v) = T_po T := rfl
theorem T_of_s_bh (T : TR) (v : Nat → Int64) : T_of (T_s_bh T v) = T_of T := rfl
theorem T_wh_s_bh (T : TR) (v : Nat → Int64) : T_wh (T_s_bh T v) = T_wh T := rfl
theorem T_ki_s_bh (T : TR) (v : Nat → Int64) : T_ki (T_s_bh T v) = T_ki T := rfl
theorem T_am_s_bh (T : TR) (v : Nat → Int64) : T_am (T_s_bh T v) = T_am T := rfl
theorem T_nu_s_bh (T : TR) (v : Nat → Int64) : T_nu (T_s_bh T v) = T_nu T := rfl
theorem T_bf_s_bh (T : TR) (v : Nat → Int64) : T_bf (T_s_bh T v) = T_bf T := rfl
theorem T_bh_s_bh (T : TR) (v : Nat → Int64) : T_bh (T_s_bh T v) = v := rfl
/-- the component: itself, its two rows, its two courses with their stretches -/
def aX (G : pw_G) (x : Nat) (rf : Nat → Nat) (ar : AR) (pr er : Nat → Option Nat) (cf : CR) (tf : SR) (cb : CR) (tb : SR) : va_W := [(x, cA rf ar), (rf 0, .inl (G.2.2.2.2, 6, .inr (.inr (.inr (.inr pr))))), (rf 1, .inl (G.2.2.2.1, 40, .inr (.inr (.inr (.inr er))))), (rf 2, cC (rf 4) cf), (rf 4, cS tf), (rf 3, cC (rf 5) cb), (rf 5, cS tb)]
/-- a part in the pool, with its rows; the events that its row names -/
def pA (G : pw_G) (L : List Nat) (F : Nat → va_E) (p u w q : Nat) (pt : PR) (us : Nat → Int32) (es : Nat → Option Nat) (ps : Nat → Int64) (evf : Nat → ER) : Prop := (p ∈ L ∧ F p = cP u w q pt) ∧ (u ∈ L ∧ F u = .inl (G.2.1, 36, .inl us)) ∧ (w ∈ L ∧ F w = .inl (G.2.2.2.1, 36, .inr (.inr (.inr (.inr es))))) ∧ (q ∈ L ∧ F q = .inl (G.2.2.1, 36, .inr (.inl ps))) ∧ ∀ i, i < 36 → ∀ a, es i = some a → a ∈ L ∧ F a = cE (evf a)
def jmin (x y : Int64) : Int64 := if y < x then y else x
def jmax (x y : Int64) : Int64 := if y < x then x else y
theorem zb_n {x : Int32} (h : x = 0 ∨ x = 1) : narrow .boolean (.int x) = .int x := by rcases h with rfl | rfl <;> rfl
theorem zb_f {x : Int32} (h : x = 0 ∨ x = 1) : fits .boolean (.int x) = true := by rcases h with rfl | rfl <;> rfl
theorem sw_ne {x : Int32} (k : Nat) (hk : k < 2 ^ 31) (h : ¬ x = nI k) : ¬ x.toInt = k := fun e => h (Int32.toInt_inj.mp (by rw [e, nI_toInt hk]))
theorem sw_3 {x : Int32} (h0 : ¬ x = 0) (h1 : ¬ x = 1) (h2 : ¬ x = 2) (h3 : ¬ x = 3) : x.toInt < 0 ∨ 3 < x.toInt := by
  have a0 := sw_ne 0 (by decide) h0; have a1 := sw_ne 1 (by decide) h1; have a2 := sw_ne 2 (by decide) h2; have a3 := sw_ne 3 (by decide) h3
  omega
theorem sw_5 {x : Int32} (h0 : ¬ x = 0) (h1 : ¬ x = 1) (h2 : ¬ x = 2) (h3 : ¬ x = 3) (h4 : ¬ x = 4) (h5 : ¬ x = 5) : x.toInt < 0 ∨ 5 < x.toInt := by
  have a0 := sw_ne 0 (by decide) h0; have a1 := sw_ne 1 (by decide) h1; have a2 := sw_ne 2 (by decide) h2; have a3 := sw_ne 3 (by decide) h3; have a4 := sw_ne 4 (by decide) h4; have a5 := sw_ne 5 (by decide) h5
  omega
theorem sw_6 {x : Int32} (h0 : ¬ x = 0) (h1 : ¬ x = 1) (h2 : ¬ x = 2) (h3 : ¬ x = 3) (h4 : ¬ x = 4) (h5 : ¬ x = 5) (h6 : ¬ x = 6) : x.toInt < 0 ∨ 6 < x.toInt := by
  have a0 := sw_ne 0 (by decide) h0; have a1 := sw_ne 1 (by decide) h1; have a2 := sw_ne 2 (by decide) h2; have a3 := sw_ne 3 (by decide) h3; have a4 := sw_ne 4 (by decide) h4; have a5 := sw_ne 5 (by decide) h5; have a6 := sw_ne 6 (by decide) h6
  omega
theorem sw_7 {x : Int32} (h0 : ¬ x = 0) (h1 : ¬ x = 1) (h2 : ¬ x = 2) (h3 : ¬ x = 3) (h4 : ¬ x = 4) (h5 : ¬ x = 5) (h6 : ¬ x = 6) (h7 : ¬ x = 7) : x.toInt < 0 ∨ 7 < x.toInt := by
  have a0 := sw_ne 0 (by decide) h0; have a1 := sw_ne 1 (by decide) h1; have a2 := sw_ne 2 (by decide) h2; have a3 := sw_ne 3 (by decide) h3; have a4 := sw_ne 4 (by decide) h4; have a5 := sw_ne 5 (by decide) h5; have a6 := sw_ne 6 (by decide) h6; have a7 := sw_ne 7 (by decide) h7
  omega
theorem sw_look0_2 {x : Int32} (h0 : ¬ x = 0) (h2 : ¬ x = 2) : Op.lookupswitch.offset [(0, 27), (2, 44)] 80 x.toInt = 80 := by
  have a0 := sw_ne 0 (by decide) h0; have a2 := sw_ne 2 (by decide) h2
  simp [Op.lookupswitch.offset]
  omega
theorem ld_pos {y : Int64} (h : ¬ y ≤ 0) : ¬ ((2) * y) = 0 := by
  intro e
  have h1 : 0 < y.toInt := by
    rw [Int64.le_iff_toInt_le] at h
    have h0 : (0 : Int64).toInt = 0 := rfl
    omega
  have h2 : (2 * y).toInt = 0 := by rw [e]; rfl
  rw [Int64.toInt_mul] at h2
  have h3 := y.toInt_lt
  have h4 : (2 : Int64).toInt = 2 := rfl
  rw [h4] at h2
  rw [Int.bmod_def] at h2
  omega
