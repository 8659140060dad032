/** The bound of 60 COMPONENTS: 59 and 60 are as wanted, 61 are WRONG at the first TOKEN of the PLAIN or SIGN. */
public final class ComponentsEdgesTest {
    // 3 and 16, and then 59 in a row that is not ended yet
    private static final String FEW = "mod P={val a=1;val b=1;val c=1;};mod R={mod A=P;mod B=P;mod C=P;mod D=P;};";
    private static final String ROW = "{mod A=R;mod B=R;mod C=R;mod D=P;mod E=P;";
    // 4 and 30
    private static final String SIGNS = "sig Q={type a;type b;val x:a;val y:b;};sig S={mod A:Q;mod B:Q;mod C:Q;mod D:Q;mod E:Q;mod F:Q;};";

    public static void main(String[] args) {
        ofAStructure();
        everySortIsOne();
        thoseThatAreNone();
        ofAFunctor();
        functorsInStructures();
        ofASign();
        ofASignOfAFunctor();
        innermostFirst();
        asWrittenAlone();
        Bench.end();
    }

    private static void ofAStructure() {
        Bench b = new Bench();
        b.good(FEW + "mod C=" + ROW + "};", 3).look(2, "C", 5);
        b.good(FEW + "mod C=" + ROW + "val x=1;};", 3).look(2, "C", 6);
        b.wrong(FEW + "mod C=^" + ROW + "val x=1;val y=1;};");
        b.wrong(FEW + "mod C= ^" + ROW + "mod F=R;mod G=R;};");
    }

    private static void everySortIsOne() {
        Bench b = new Bench();
        for (String one : new String[] {"val y=1;", "type t=int;", "mod F={};", "mod F=fun(X:{})X;"}) {
            b.good(FEW + "mod C=" + ROW + one + "};", 3).look(2, "C", 6);
            b.wrong(FEW + "mod C=^" + ROW + "val x=1;" + one + "};");
        }
    }

    private static void thoseThatAreNone() {
        Bench b = new Bench();
        b.good(FEW + "mod C=" + ROW + "val x=1;sig S={val x:int;};val x=2;mod A=R;mod B=R;};", 3).look(2, "C", 6);
        // what a SIGN has is not in the STRUCTURE
        b.good(FEW + "mod C=" + ROW + "val x=1;sig T={type a;type b;type c;};};", 3);
        // a row of which others are left is counted at its end
        b.good(FEW + "mod C=" + ROW + "mod F=R;mod F={};};", 3).look(2, "C", 6);
    }

    private static void ofAFunctor() {
        Bench b = new Bench();
        String f = "fun(X:S){mod A=X.A;mod B=X.A;mod C=X.A;mod D=X.A;mod E=X.A;val a=1;val b=1;val c=1;val d=1;";
        b.good(SIGNS + "mod F=" + f + "};", 3).look(2, "F", -1);
        b.good(SIGNS + "mod F=" + f + "val e=1;};", 3);
        b.wrong(SIGNS + "mod F=^" + f + "val e=1;val f=1;};");
        b.good(SIGNS + "mod F=fun(X:S)X;", 3);
        b.wrong(SIGNS + "mod F=^fun(X:S){mod X=X;};");
        b.wrong(SIGNS + "mod F=^fun(X:{mod X:S;})X.X;");
        b.wrong(SIGNS + "mod F=^fun(X:{mod X:S;})X;");
        b.good(SIGNS + "mod F=fun(X:{})fun(Y:S)Y;", 3);
        b.wrong(SIGNS + "mod F=^fun(X:{type t;})fun(Y:S)Y;");
    }

    private static void functorsInStructures() {
        Bench b = new Bench();
        String f = "{mod F=fun(X:S){mod A=X.A;mod B=X.A;mod C=X.A;mod D=X.A;mod E=X.A;val a=1;val b=1;val c=1;";
        b.good(SIGNS + "mod M=" + f + "};};", 3).look(2, "M", 1);
        b.good(SIGNS + "mod M=" + f + "val d=1;};};", 3).look(2, "M", 1);
        b.wrong(SIGNS + "mod M=^" + f + "val d=1;};val x=1;};");
        b.wrong(SIGNS + "mod M=^{mod F=fun(X:S)X;};");
    }

    private static void ofASign() {
        Bench b = new Bench();
        String t = "{mod A:S;mod B:Q;mod C:Q;mod D:Q;mod E:Q;mod F:Q;val a:int;val b:int;val c:int;";
        b.good(SIGNS + "sig T=" + t + "};", 3);
        b.good(SIGNS + "sig T=" + t + "type d;};", 3);
        b.wrong(SIGNS + "sig T=^" + t + "type d;type e=d;};");
        b.wrong(SIGNS + "sig T=^{mod A:S;mod B:S;};");
        b.wrong(SIGNS + "mod F=fun(X:^{mod A:S;mod B:S;})X;");
        b.wrong(SIGNS + "mod A={}:>^{mod A:S;mod B:S;};");
        b.wrong(SIGNS + "sig T={mod C:^{mod A:S;mod B:S;};};");
    }

    private static void ofASignOfAFunctor() {
        Bench b = new Bench();
        b.good(SIGNS + "sig T=fun(X:S){mod A:Q;mod B:Q;mod C:Q;mod D:Q;mod E:Q;type a;type b;val x:a;val y:b;};", 3);
        b.good(SIGNS + "sig T=fun(X:S)S;", 3);
        b.wrong(SIGNS + "sig T=^fun(X:S){mod A:S;};");
        b.wrong(SIGNS + "sig T=^fun(X:{mod A:S;})S;");
        b.good(SIGNS + "sig T=fun(X:{})fun(Y:S)S;", 3);
        b.wrong(SIGNS + "sig T=^fun(X:{type t;})fun(Y:S)S;");
        b.wrong(SIGNS + "sig T=^{mod F:fun(X:S)S;};");
        b.wrong(SIGNS + "mod A={}:>^fun(X:{type t;})fun(Y:S)S;");
    }

    private static void innermostFirst() {
        Bench b = new Bench();
        b.wrong(FEW + "mod C={mod D=^" + ROW + "val x=1;val y=1;};};");
        b.wrong(FEW + "mod C=^{mod D=" + ROW + "val x=1;};};");
        b.wrong(FEW + "mod C=^" + ROW + "val x=1;val y=1;}:>T;");
        // what is in the row comes before the row
        b.wrong(FEW + "mod C=" + ROW + "val x=1;val y=1;val z=^w;};");
        b.wrong(SIGNS + "mod F=fun(X:Q)^fun(Y:S)fun(Z:S)Z;");
        b.wrong(SIGNS + "mod F=^fun(X:Q)fun(Y:S)Y;");
    }

    private static void asWrittenAlone() {
        Bench b = new Bench();
        // a PATH to one with 60, and one that is sealed with less
        b.good(FEW + "mod C=" + ROW + "val x=1;};mod D=C;mod E=C:>{};", 5).look(2, "D", 6).look(2, "E", 0);
        // all that is bound in the PROGRAM itself is no STRUCTURE
        b.good(FEW + "mod C=" + ROW + "val x=1;};mod D=C;mod E=C;mod F=C;mod G=C;", 7);
        b.good(SIGNS + "sig T=fun(X:S)S;sig U=T;mod F=fun(X:S)X:>S;", 5).matches("F", 'U', true);
    }
}
