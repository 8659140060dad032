/** The edges of MATCHES, and the bounds of promise 8: NAMES from A to Z, PATHS, what is refused. */
public final class MatchEdgesTest {
    private static final String ILLEGAL_ARGUMENT = "IllegalArgumentException";
    private static final String NO_SUCH_ELEMENT = "NoSuchElementException";

    public static void main(String[] args) {
        namesThatAreRefused();
        pathsThatAreRefused();
        noProgram();
        noneSuch();
        namesFromAToZ();
        noComponentAndEach();
        bySortAndName();
        theFirstTypeThatIsIt();
        hiddenInModules();
        onlyThoseThatAreHidden();
        theFirstModuleOfAll();
        structureAndFunctor();
        argumentsTheOtherWay();
        resultsWithThoseMade();
        sameAsSealing();
        nothingStaysOfSealing();
        bothBindTheirOwn();
        againAndAgain();
        nothingIsMade();
        Bench.end();
    }

    private static void namesThatAreRefused() {
        for (int name : new int[] {'A' - 1, 'Z' + 1, 'a', 'z', 0, -1, 'A' + 256, Integer.MIN_VALUE, Integer.MAX_VALUE}) {
            Stories.refusedAlways("matches(A, " + name + ")", f -> f.matches('A', name), ILLEGAL_ARGUMENT);
        }
    }

    private static void pathsThatAreRefused() {
        for (String path : new String[] {"", ".", "A.", ".A", "A..B", "AB", "A.B.", "A B", "x", "A.x", "x.A", "A.B.C.D.", "1", "A-B", "@", "["}) {
            Stories.refusedAlways("matches(" + path + ", S)", f -> f.matches(Bench.pack(path), 'S'), ILLEGAL_ARGUMENT);
        }
        Stories.refusedAlways("matches(-1, S)", f -> f.matches(-1, 'S'), ILLEGAL_ARGUMENT);
    }

    private static void noProgram() {
        Stories.refused(Stories.withoutProgram(), "matches(A, S)", f -> f.matches('A', 'S'), "IllegalStateException");
        Stories.refused(Stories.withoutProgram(), "matches(A.B, Z)", f -> f.matches(Bench.pack("A.B"), 'Z'), "IllegalStateException");
    }

    private static void noneSuch() {
        Stories.refused(Stories.withProgram(), "matches(B, S)", f -> f.matches('B', 'S'), NO_SUCH_ELEMENT);
        Stories.refused(Stories.withProgram(), "matches(S, S)", f -> f.matches('S', 'S'), NO_SUCH_ELEMENT);
        Stories.refused(Stories.withProgram(), "matches(A, A)", f -> f.matches('A', 'A'), NO_SUCH_ELEMENT);
        Stories.refused(Stories.withProgram(), "matches(A.B, S)", f -> f.matches(Bench.pack("A.B"), 'S'), NO_SUCH_ELEMENT);
        Stories.refused(Stories.withProgram(), "matches(F.X, S)", f -> f.matches(Bench.pack("F.X"), 'S'), NO_SUCH_ELEMENT);
        Stories.refused(Stories.withProgram(), "matches(B, B)", f -> f.matches('B', 'B'), NO_SUCH_ELEMENT);
        // a SIGNATURE in a row is gone at the end of the PROGRAM
        new Bench().good("mod A={sig S={};};", 1).matches("A", 'S', NO_SUCH_ELEMENT);
    }

    private static void namesFromAToZ() {
        new Bench().good("sig A={};sig Z={val x:int;};mod A={};mod Z={val x=1;};", 4)
                .matches("A", 'A', true).matches("A", 'Z', false).matches("Z", 'A', true).matches("Z", 'Z', true);
        // the longest PATH that has room
        new Bench().good("sig S={};sig T={val x:int;};mod A={mod B={mod C={mod D={val x=1;};};};};", 3)
                .matches("A.B.C.D", 'T', true).matches("A.B.C.D", 'S', true).matches("A.B.C", 'T', false).matches("A.B.C.C", 'T', NO_SUCH_ELEMENT);
    }

    private static void noComponentAndEach() {
        Bench b = new Bench();
        b.good("sig S={};mod A={};mod B={val x=1;type t=int;mod A={};};", 3).matches("A", 'S', true).matches("B", 'S', true);
        String s = "sig S={val x:int;type t=bool;mod A:{val y:int;};};";
        b.good(s + "mod A={mod A={val z=1;val y=1;};type t=bool;val x=1;val w=2;};", 2).matches("A", 'S', true);
        // each one but one
        b.good(s + "mod A={type t=bool;mod A={val y=1;};};mod B={val x=1;mod A={val y=1;};};mod C={val x=1;type t=bool;};"
                + "mod D={val x=1;type t=bool;mod A={};};", 5);
        b.matches("A", 'S', false).matches("B", 'S', false).matches("C", 'S', false).matches("D", 'S', false);
        // each one, but one that is not the same
        b.good(s + "mod A={val x=true;type t=bool;mod A={val y=1;};};mod B={val x=1;type t=int;mod A={val y=1;};};"
                + "mod D={val x=1;type t=bool;mod A={val y=(1,1);};};", 4);
        b.matches("A", 'S', false).matches("B", 'S', false).matches("D", 'S', false);
    }

    private static void bySortAndName() {
        Bench b = new Bench().good("sig V={val x:int;};sig T={type x=int;};sig M={mod X:{};};mod A={val x=1;};mod B={type x=int;};mod C={mod X={};};"
                + "mod D={val y=1;type y=int;mod Y={};};", 7);
        b.matches("A", 'V', true).matches("A", 'T', false).matches("A", 'M', false);
        b.matches("B", 'V', false).matches("B", 'T', true).matches("B", 'M', false);
        b.matches("C", 'V', false).matches("C", 'T', false).matches("C", 'M', true);
        b.matches("D", 'V', false).matches("D", 'T', false).matches("D", 'M', false);
    }

    private static void theFirstTypeThatIsIt() {
        Bench b = new Bench();
        // t is looked for first; u must be the same then
        b.good("sig S={type t;type u=t;};mod A={type u=int;type t=int;};mod B={type t=int;type u=bool;};", 3);
        b.matches("A", 'S', true).matches("B", 'S', false);
        b.good("sig S={type t;val x:t;};mod A={type t=int*int;val x=(1,2);};mod B={type t=int*int;val x=1;};mod C={val x=1;};", 4);
        b.matches("A", 'S', true).matches("B", 'S', false).matches("C", 'S', false);
        // two HIDDEN ones can stand for one TYPE, one can not for two
        b.good("sig S={type t;type u;val f:t->u;};sig T={type t;val f:t->t;};mod A={type t=int;type u=int;val f=\\x:int.x;};"
                + "mod B={type t=int;type u=bool;val f=\\x:int.x<1;};", 4);
        b.matches("A", 'S', true).matches("A", 'T', true).matches("B", 'S', true).matches("B", 'T', false);
        // a HIDDEN one can stand for a SECRET
        b.good("sig S={type t;val x:t;};mod A={type t=int;val x=1;}:>S;mod B={type t=int;val x=A.x;};mod C={type t=A.t;val x=A.x;};", 4);
        b.matches("A", 'S', true).matches("B", 'S', false).matches("C", 'S', true);
    }

    private static void hiddenInModules() {
        Bench b = new Bench();
        b.good("sig S={mod A:{type t;};mod B:{type t=A.t;val x:t;};};mod M={mod A={type t=int;};mod B={type t=int;val x=1;};};"
                + "mod N={mod A={type t=bool;};mod B={type t=int;val x=1;};};mod O={mod A={};mod B={type t=int;val x=1;};};", 4);
        b.matches("M", 'S', true).matches("N", 'S', false).matches("O", 'S', false);
        // not those in FUNCTORS: there the TYPE must be what it is elsewhere
        b.good("sig S={type t;mod F:fun(X:{}){type u=t;};};mod A={type t=int;mod F=fun(X:{}){type u=int;};};"
                + "mod B={type t=int;mod F=fun(X:{}){type u=bool;};};", 3);
        b.matches("A", 'S', true).matches("B", 'S', false);
    }

    private static void onlyThoseThatAreHidden() {
        Bench b = new Bench();
        // A.t is a SECRET, but none of those that S hides
        String a = "mod A={type t=int;val x=1;}:>{type t;val x:t;};";
        b.good(a + "sig S={type t;type u=A.t;val x:t;};mod B={type t=int;type u=int;val x=1;};mod C={type t=int;type u=A.t;val x=1;};"
                + "mod D={type t=A.t;type u=A.t;val x=A.x;};", 5);
        b.matches("B", 'S', false).matches("C", 'S', true).matches("D", 'S', true);
        // what VALUES and TYPES before it are plays no role
        b.good(a + "sig S={val y:bool;type u=bool;type t;val x:A.t;};mod B={val y=true;type u=bool;type t=int;val x=A.x;};", 3).matches("B", 'S', true);
        b.good(a + "sig S={type t;type u=int->bool;val x:A.t;};mod B={type t=bool;type u=int->bool;val x=A.x;};", 3).matches("B", 'S', true);
        // one that came up behind those that S hides
        b.good("sig S={type t;val x:t;};" + a + "mod B={type t=A.t;val x=A.x;};mod C={type t=int;val x=A.x;};", 4);
        b.matches("B", 'S', true).matches("C", 'S', false);
    }

    private static void theFirstModuleOfAll() {
        new Bench().good("mod A={type t=int;};mod M={mod A=A;};sig S={mod A:{type t;};};", 3).matches("M", 'S', true).matches("A", 'S', false);
        new Bench().good("mod A={mod B={type t=int;};};sig S={mod B:{type t;type u=t;};};", 2).matches("A", 'S', false);
    }

    private static void structureAndFunctor() {
        Bench b = new Bench().good("sig S={};sig F=fun(X:{}){};sig M={mod A:{};};sig N={mod A:fun(X:{}){};};mod A={};mod F=fun(X:{})X;mod M={mod A=A;};"
                + "mod N={mod A=F;};", 8);
        b.matches("A", 'S', true).matches("A", 'F', false).matches("F", 'S', false).matches("F", 'F', true);
        b.matches("M", 'M', true).matches("M", 'N', false).matches("N", 'M', false).matches("N", 'N', true);
        b.matches("N.A", 'F', true).matches("M.A", 'F', false);
    }

    private static void argumentsTheOtherWay() {
        Bench b = new Bench();
        b.good("sig T=fun(X:{val x:int;val y:int;}){};mod F=fun(X:{val x:int;}){};mod G=fun(X:{val x:int;val y:int;val z:int;}){};mod H=fun(X:{}){};", 4);
        b.matches("F", 'T', true).matches("G", 'T', false).matches("H", 'T', true);
        b.good("sig T=fun(X:{type t=int;}){};sig U=fun(X:{type t;}){};mod F=fun(X:{type t;}){};mod G=fun(X:{type t=int;}){};mod H=fun(X:{type t=bool;}){};", 5);
        b.matches("F", 'T', true).matches("F", 'U', true).matches("G", 'T', true).matches("G", 'U', false).matches("H", 'T', false);
    }

    private static void resultsWithThoseMade() {
        Bench b = new Bench();
        String s = "sig S={type t;};sig T=fun(X:S)S;sig U=fun(X:S){type t=X.t;};sig V=fun(X:S){type t=int;};";
        b.good(s + "mod F=fun(X:S)X;mod G=fun(X:S){type t=int;};mod H=fun(X:S)X:>S;mod I=fun(X:S){};", 8);
        b.matches("F", 'T', true).matches("F", 'U', true).matches("F", 'V', false);
        b.matches("G", 'T', true).matches("G", 'U', false).matches("G", 'V', true);
        b.matches("H", 'T', true).matches("H", 'U', false).matches("H", 'V', false);
        b.matches("I", 'T', false).matches("I", 'U', false).matches("I", 'V', false);
    }

    private static void sameAsSealing() {
        Bench b = new Bench();
        String s = "sig S={type t;val f:t->int;};";
        b.good(s + "mod A={type t=bool;val f=\\x:bool.1;};mod B=A:>S;", 3).matches("A", 'S', true).matches("B", 'S', true);
        b.good(s + "mod A={type t=bool;val f=\\x:int.1;};", 2).matches("A", 'S', false);
        b.wrong(s + "mod A={type t=bool;val f=\\x:int.1;};mod B=A^:>S;");
        b.wrong(s + "mod A={type t=bool;val f=\\x:int.1;};mod F=fun(X:S)X;mod B=F^(A);");
    }

    private static void nothingStaysOfSealing() {
        // TYPES that were of use in matching alone are not taken for others later
        Bench b = new Bench().good("sig S={type t;val x:t*t;};mod F=fun(X:S)X;mod G=F:>fun(X:S)S;"
                + "type a=int*int;type b=a*a;type c=bool->int;type d=b->b;type e=c->c;", 8);
        b.type("a", 2, "(int*int)").type("b", 4, "((int*int)*(int*int))").type("c", 2, "(bool->int)");
        b.look(1, "d", 8).type("e", 4, "((bool->int)->(bool->int))");
    }

    /** What one elaborate or matches leaves behind is not taken for something by the next. */
    private static void againAndAgain() {
        Bench b = new Bench();
        for (int round = 0; round < 6; round++) {
            functorsAgainstTheirOwnSign(b);
            typesThatOnlyMatchingMakes(b);
        }
    }

    /** A FUNCTOR that is sealed with the SIGN it came from: each side binds its own, and others stay what they are. */
    private static void functorsAgainstTheirOwnSign(Bench b) {
        String t = "sig T=fun(X:{type t;}){type u;val x:X.t->u;};";
        b.good(t + "mod F=fun(X:T)X:>T;", 2).count(2, 2).matches("F", 'T', false);
        b.wrong(t + "mod F=fun(X:T)X^:>fun(X:{type t;}){type u;val x:u->X.t;};");
        b.wrong(t + "mod F=fun(X:T)X^:>fun(X:{type t;}){type u=X.t;val x:X.t->u;};");
        // the SECRET behind those that F binds is t of another S
        b.good("sig S={type t;mod F:fun(X:{type u;}){type v=t;};};mod A=fun(X:S)X:>S;", 2).count(2, 4);
        b.good("sig S={mod F:fun(X:{type u;}){type v;};type t;};mod A=fun(X:S)X:>S:>S;", 2).count(2, 6);
    }

    /** What a FUNCTOR binds is no TYPE of anybody else, the first SECRET of all included. */
    private static void bothBindTheirOwn() {
        String a = "mod A={type t=int;}:>{type t;};";
        new Bench().good(a + "sig T=fun(X:{type u;}){type v=A.t;};mod F=fun(X:{type u;}){type v=X.u;};", 3).matches("F", 'T', false);
        new Bench().good(a + "sig T=fun(X:{}){type v=A.t;};mod F=fun(X:{}){type v=int;}:>{type v;};", 3).matches("F", 'T', false);
        new Bench().good(a + "sig T=fun(X:{type u;}){type v=A.t;};mod F=fun(X:{type u;}){type v=A.t;};", 3).matches("F", 'T', true);
    }

    /** TYPES that came up in matching alone are forgotten, and those that stay are still the same. */
    private static void typesThatOnlyMatchingMakes(Bench b) {
        String f = "mod F=fun(X:{type t;}){type t=X.t*X.t;};sig S={type t;val x:t*t*t;};";
        b.good(f + "sig T=fun(X:S){type t;};mod G=fun(X:S)X:>S:>S;sig S={mod A:S;mod B:S;};", 5).count(2, 9);
        b.matches("F", 'T', true).matches("G", 'T', true).matches("F", 'S', false).matches("G", 'S', false);
        b.good(f + "sig S=fun(X:S)S;mod G=fun(X:S)X:>S:>S;mod G=fun(X:S)fun(Y:S)X;", 5).count(2, 4).matches("G", 'S', false);
        b.good("sig S={type t;type u;val x:t*u;};mod F=fun(X:{type t;}){type t=X.t->X.t*int;mod A=X;val x=1;};sig T=fun(X:S){type t;};"
                + "mod G=fun(X:S)X:>S:>S;", 4).count(2, 12).matches("F", 'T', true).matches("G", 'T', true).matches("G", 'S', false);
        b.wrong("sig S={type t;type u;val x:t*u;};mod F=fun(X:{type t;}){type t=X.t->X.t*int;mod A=X;val x=1;};sig T=fun(X:S){type t;};"
                + "mod G=fun(X:S)X:>S:>S;mod A=^A:>S;");
        b.good("sig S={type t;};type t=int->int;mod B=fun(Y:S){sig U=S;mod B=Y;};val f=\\t:t.(if true then t else t);mod A={type t=bool->int;}:>S;"
                + "mod X=B(A);val g=(9999,2);val u=((fst g+2),0);", 8).count(2, 4).type("X.B.t", 1, "#3");
        b.good("sig S={type t;val x:t*t*t;};sig S={mod A:S;mod B:S;};sig S=fun(X:S)S;mod G=fun(X:S)X:>S:>S;val x=(1,2);"
                + "mod F=fun(X:{type t;}){mod A={type t=X.t*X.t*X.t;};type t=A.t*A.t;};val x=(x,1);mod H=fun(X:S)X:>S:>S;", 8).matches("H", 'S', false);
        b.value("x", 3, "((int*int)*int)");
        b.good("sig S={type a;type b;type c;type d;type e;};mod F=fun(X:{type t;}){mod A={type t=X.t*X.t*X.t;};type t=A.t*A.t;};"
                + "sig S={mod A:S;mod B:S;mod C:S;};sig S={type x;type y;type z;mod A:S;mod B:S;};" + "sig S={mod A:S;type t;};".repeat(2), 6);
        b.count(2, 123).matches("F", 'S', false);
    }

    private static void nothingIsMade() {
        Bench b = new Bench().good("sig S={type t;type u;};mod A={type t=int;type u=bool;};type t=int*int;", 3).type("t", 2, "(int*int)").run(9, 1, 1);
        for (int i = 0; i < 100; i++) {
            b.matches("A", 'S', true).count(2, 2);
        }
        b.told("(int*int)").count(3, 1).type("A.t", 1, "int");
    }
}
