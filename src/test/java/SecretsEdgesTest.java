/** The bound of 200 SECRETS, numbered from 0 on: the 200th is made, one more is WRONG where it would come up. */
public final class SecretsEdgesTest {
    // 5, and 10 more
    private static final String SIGNS = "sig S={type a;type b;type c;type d;type e;};sig T={mod A:S;mod B:S;};";

    public static void main(String[] args) {
        byASpec();
        bySpecsInOtherPlaces();
        byTheXOfASign();
        byTheXInOtherPlaces();
        byAnApplication();
        whatMakesNone();
        numbered();
        anewForEachProgram();
        Bench.end();
    }

    /** 10 for X and 10 for each :> */
    private static String functor(int seals) {
        return "mod F=fun(X:T)X" + ":>T".repeat(seals) + ";";
    }

    /** So many of type a; type b; .. */
    private static String specs(int count) {
        StringBuilder all = new StringBuilder();
        for (int i = 0; i < count; i++) {
            all.append("type ").append((char) ('a' + i)).append(';');
        }
        return all.toString();
    }

    private static void byASpec() {
        Bench b = new Bench();
        // 15 and 180
        String before = SIGNS + functor(17);
        b.good(before, 3).count(2, 195);
        b.good(before + "sig U={" + specs(4) + "};", 4).count(2, 199);
        b.good(before + "sig U={" + specs(5) + "};", 4).count(2, 200);
        b.wrong(before + "sig U={" + specs(5) + "type ^f;};");
        b.wrong(before + "sig U={" + specs(5) + "type ^f;type g;};");
        b.wrong(before + "sig U={" + specs(5) + "};sig V={type t=int;type ^a;};");
    }

    private static void bySpecsInOtherPlaces() {
        Bench b = new Bench();
        String before = SIGNS + functor(17) + "sig U={" + specs(4) + "};";
        b.good(before + "mod A={type t=int;}:>{type t;};", 5).count(2, 200).type("A.t", 1, "#199");
        b.wrong(before + "mod A={type t=int;}:>{type t;}:>{type ^t;};");
        b.good(before + "mod F=fun(X:{type t;})X;", 5).count(2, 200);
        b.wrong(before + "mod F=fun(X:{type t;type ^u;})X;");
        b.wrong(before + "sig V=fun(X:{type t;}){type ^u;};");
        b.wrong(before + "sig V={type t;mod A:{type ^u;};};");
    }

    private static void byTheXOfASign() {
        Bench b = new Bench();
        // 15, 170 and what U has
        b.good(SIGNS + functor(16) + "sig U={" + specs(4) + "};sig V=T;", 5).count(2, 199);
        b.good(SIGNS + functor(16) + "sig U={" + specs(5) + "};sig V=T;", 5).count(2, 200);
        b.wrong(SIGNS + functor(16) + "sig U={" + specs(6) + "};sig V=^T;");
        b.wrong(SIGNS + functor(17) + "sig V=S;sig W=^S;");
        b.wrong(SIGNS + functor(17) + "sig V=^T;");
    }

    private static void byTheXInOtherPlaces() {
        Bench b = new Bench();
        b.good(SIGNS + functor(17) + "mod A=fun(X:S)X;", 4).count(2, 200);
        b.wrong(SIGNS + functor(17) + "mod A=fun(X:^T)X;");
        b.wrong(SIGNS + functor(17) + "mod A=fun(X:S)X:>^S;");
        b.wrong(SIGNS + "mod F=fun(X:T)X" + ":>T".repeat(17) + ":>^T:>T;");
        b.wrong(SIGNS + functor(17) + "sig V={mod A:S;mod B:^S;};");
        b.wrong(SIGNS + functor(17) + "sig V=fun(X:S)^S;");
        // it is looked at before the :> is
        b.wrong(SIGNS + functor(17) + "mod A={}:>^T;");
        b.wrong(SIGNS + functor(17) + "mod A={}^:>S;");
    }

    private static void byAnApplication() {
        Bench b = new Bench();
        // 15, 160 for F, what U has, 10 for A, 10 for those MADE
        String g = "mod G=fun(A:T)F(A);";
        b.good(SIGNS + functor(15) + "sig U={" + specs(4) + "};" + g, 5).count(2, 199);
        b.good(SIGNS + functor(15) + "sig U={" + specs(5) + "};" + g, 5).count(2, 200);
        b.wrong(SIGNS + functor(15) + "sig U={" + specs(6) + "};mod G=fun(A:T)F^(A);");
        b.wrong(SIGNS + functor(15) + "sig U=S;mod G=fun(A:T){mod B=F(A);mod C=F ^(A);};");
        // what does not MATCH is WRONG at the same TOKEN, what is no COMPONENT before it
        b.wrong(SIGNS + functor(16) + "mod E={};mod G=F^(E);");
        b.wrong(SIGNS + functor(16) + "mod E={};mod G=F(E.^A);");
    }

    private static void whatMakesNone() {
        Bench b = new Bench();
        String full = SIGNS + functor(17) + "sig U=S;";
        b.good(full, 4).count(2, 200);
        b.good(full + "sig V={type t=int;val x:t;mod A:{};};mod A={type t=bool;}:>{type t=bool;};", 6).count(2, 200);
        b.good(full + "mod G=fun(X:{})X;mod E={};mod A=G(E);", 7).count(2, 200);
        b.good(full + "sig V=fun(X:{}){};sig W=V;mod G=F;", 7).count(2, 200);
        // matches makes none, either
        b.matches("F", 'U', false).matches("F", 'V', false).count(2, 200);
    }

    private static void numbered() {
        Bench b = new Bench();
        b.good("mod A={type t=int;}:>{type t;};", 1).type("A.t", 1, "#0").count(2, 1);
        String ten = "sig S={type a;type b;type c;};sig S={mod A:S;mod B:S;};";
        String end = "mod A={type t=int;}:>{type t;};mod B=A:>{type t;};";
        b.good(ten + end, 4).type("A.t", 1, "#9").type("B.t", 1, "#10").count(2, 11);
        String hundred = SIGNS + "sig U={type a;type b;type c;type d;};" + functor(7);
        b.good(hundred + end, 6).type("A.t", 1, "#99").type("B.t", 1, "#100").count(2, 101);
        String all = SIGNS + functor(17) + "sig U={type a;type b;type c;};";
        b.good(all + end, 6).type("A.t", 1, "#198").type("B.t", 1, "#199").count(2, 200);
    }

    private static void anewForEachProgram() {
        Bench b = new Bench();
        String full = SIGNS + functor(17) + "sig U=S;";
        for (int i = 0; i < 3; i++) {
            b.good(full, 4).count(2, 200);
            b.wrong(full + "sig V={type ^t;};");
            b.count(2, 200);
        }
        b.good("mod A={type t=int;}:>{type t;};", 1).type("A.t", 1, "#0").count(2, 1);
        b.good("", 0).count(2, 0);
    }
}
