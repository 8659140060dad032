/** The bounds of promises 10 and 11: what result and count refuse, and what they answer at their edges. */
public final class ResultEdgesTest {
    private static final String ILLEGAL_ARGUMENT = "IllegalArgumentException";
    private static final String ILLEGAL_STATE = "IllegalStateException";
    private static final String NO_SUCH_ELEMENT = "NoSuchElementException";
    private static final String UNSUPPORTED = "UnsupportedOperationException";

    public static void main(String[] args) {
        pathsThatAreRefused();
        noProgram();
        notRunYet();
        notEnded();
        noneSuch();
        pairsAndFunctions();
        leastAndGreatest();
        truths();
        ofTheLatestRun();
        throughSealing();
        countThatIsRefused();
        countOfCharacters();
        countOfBindings();
        countOfSecrets();
        countOfSteps();
        Bench.end();
    }

    private static void pathsThatAreRefused() {
        String[] paths = {"", ".", "A", "A.B", "A.", "x.", ".x", "A..x", "Ax", "xy", "x.x", "A.x.x", "A x", "1", "A.B.C.D.", "A.B.C.D", "@", "{"};
        for (String path : paths) {
            Stories.refusedAlways("result(" + path + ")", f -> f.result(Bench.pack(path)), ILLEGAL_ARGUMENT);
        }
        Stories.refusedAlways("result(-1)", f -> f.result(-1), ILLEGAL_ARGUMENT);
    }

    private static void noProgram() {
        Stories.refused(Stories.withoutProgram(), "result(x)", f -> f.result('x'), ILLEGAL_STATE);
        Stories.refused(Stories.withoutProgram(), "result(A.x)", f -> f.result(Bench.pack("A.x")), ILLEGAL_STATE);
    }

    private static void notRunYet() {
        for (String path : new String[] {"x", "f", "A.x", "z", "B.x"}) {
            Bench.refused("result(" + path + ")", Stories::elaborated, f -> f.result(Bench.pack(path)), ILLEGAL_STATE);
        }
        // a RUN of an earlier PROGRAM, or one that was refused, is none
        Bench b = new Bench().good("val x=1;", 1).run(1, 1, 1).result("x", 1).good("val x=2;", 1).result("x", ILLEGAL_STATE);
        b.run(501, ILLEGAL_ARGUMENT, 0).result("x", ILLEGAL_STATE).run(1, 1, 1).result("x", 2);
    }

    private static void notEnded() {
        for (String path : new String[] {"x", "f", "A.x", "z"}) {
            Bench.refused("result(" + path + ")", Stories::halted, f -> f.result(Bench.pack(path)), ILLEGAL_STATE);
        }
        // what was done before the limit is not told, either
        Bench b = new Bench().good("val x=1;val y=2;", 2).run(1, 0, 1).result("x", ILLEGAL_STATE).run(2, 1, 2).result("x", 1);
        b.run(0, 0, 0).result("x", ILLEGAL_STATE).run(2, 1, 2).result("y", 2);
    }

    private static void noneSuch() {
        for (String path : new String[] {"z", "t", "A.y", "A.t", "B.x", "F.x", "A.A.x"}) {
            Bench.refused("result(" + path + ")", Stories::ended, f -> f.result(Bench.pack(path)), NO_SUCH_ELEMENT);
        }
        new Bench().good("", 0).run(0, 1, 0).result("x", NO_SUCH_ELEMENT);
    }

    private static void pairsAndFunctions() {
        Bench.refused("result(f)", Stories::ended, f -> f.result('f'), UNSUPPORTED);
        Bench b = new Bench().good("val p=(1,2);val q=((1,2),3);val f=\\x:int.x;val g=\\x:int.\\y:int.x;val h=g 1;val i=h 2;val j=(f,f);"
                + "mod A={val p=p;val f=f;val x=fst p;};", 8).run(500, 1, 13);
        b.result("p", UNSUPPORTED).result("q", UNSUPPORTED).result("f", UNSUPPORTED).result("g", UNSUPPORTED).result("h", UNSUPPORTED);
        b.result("i", 1).result("j", UNSUPPORTED).result("A.p", UNSUPPORTED).result("A.f", UNSUPPORTED).result("A.x", 1);
        // by its VALUE, whatever its TYPE hides
        b.good("sig S={type t;val x:t;};mod A={type t=int*int;val x=(1,2);}:>S;mod B={type t=int->int;val x=\\y:int.y;}:>S;"
                + "mod C={type t=int;val x=7;}:>S;mod D={type t=bool;val x=true;}:>S;", 5).run(500, 1, 8);
        b.result("A.x", UNSUPPORTED).result("B.x", UNSUPPORTED).result("C.x", 7).result("D.x", 1);
    }

    private static void leastAndGreatest() {
        Bench b = new Bench();
        b.good("val d=\\x:int.x+x;val q=\\x:int.d(d(d(d x)));val m=q(q(q(q(q(q(q 8))))));val n=m-1;val z=0;val o=0-1;val t=0-2;", 7).run(500, 1, 42);
        b.result("m", Integer.MIN_VALUE).result("n", Integer.MAX_VALUE).result("z", 0).result("o", -1).result("t", ModuleForge.NONE);
    }

    private static void truths() {
        new Bench().good("val a=true;val b=false;val c=1<2;val d=2<1;val e=1==1;val f=1==2;", 6).run(6, 1, 6)
                .result("a", 1).result("b", 0).result("c", 1).result("d", 0).result("e", 1).result("f", 0);
    }

    private static void ofTheLatestRun() {
        Bench b = new Bench().good("val x=1;val f=\\x:int.x+1;val x=f x;", 3).run(4, 1, 4).result("x", 2).run(4, 1, 4).result("x", 2);
        b.noProgram("val x=7^");
        b.result("x", 2);
        b.wrong("val x=^y;");
        b.result("x", 2).give("val x=9;").result("x", 2).look(0, "x", 1).result("x", 2);
        // a PATH that ends in an inner row, and one with the same NAME outside
        b.good("val x=1;mod A={val x=2;mod B={val x=3;mod C={val x=4;};};};", 2).run(7, 1, 7);
        b.result("x", 1).result("A.x", 2).result("A.B.x", 3).result("A.B.C.x", 4);
    }

    private static void throughSealing() {
        Bench b = new Bench().good("mod A={val x=1;val y=2;}:>{val y:int;};mod B=A;mod F=fun(X:{val y:int;}){val z=X.y+1;mod Y=X;};mod C=F(A);", 4);
        b.run(500, 1, 9).result("A.y", 2).result("A.x", NO_SUCH_ELEMENT).result("B.y", 2).result("B.x", NO_SUCH_ELEMENT);
        b.result("C.z", 3).result("C.Y.y", 2).result("C.Y.x", NO_SUCH_ELEMENT).result("C.y", NO_SUCH_ELEMENT);
    }

    private static void countThatIsRefused() {
        for (int what : new int[] {-1, 4, 5, -2, 256, Integer.MIN_VALUE, Integer.MAX_VALUE}) {
            Stories.refusedAlways("count(" + what + ")", f -> f.count(what), ILLEGAL_ARGUMENT);
        }
    }

    private static void countOfCharacters() {
        Bench b = new Bench().count(0, 0).give("x").count(0, 1).give("x".repeat(239)).count(0, 239).give("x".repeat(240)).count(0, 240);
        b.forge.clear();
        b.count(0, 0).good("val x=1;", 1).count(0, 8);
    }

    private static void countOfBindings() {
        Bench b = new Bench().count(1, 0).give("val x=1;").count(1, 0).good("val x=1;", 1).count(1, 1).good("", 0).count(1, 0);
        // as many as there can be
        b.good("sig S={};".repeat(26), 26).count(1, 26).good("val x=1;".repeat(30), 30).count(1, 30).run(500, 1, 30).result("x", 1);
        b.good("mod A={" + "val x=1;".repeat(28) + "};", 1).count(1, 1);
        b.wrong("val x=1;val x=2;val x=^y;");
        b.count(1, 1);
    }

    private static void countOfSecrets() {
        Bench b = new Bench().count(2, 0).give("sig S={type t;};").count(2, 0).good("sig S={type t;};", 1).count(2, 1).good("sig S={};", 1).count(2, 0);
        b.good("sig S={type t;type u=t;};mod A={type t=int;type u=int;}:>S;", 2).count(2, 2).matches("A", 'S', true).run(500, 1, 1).count(2, 2);
        b.wrong("sig S={type t;type u;type v;};val x=^y;");
        b.count(2, 2);
        // also those that nobody speaks of any more
        b.good("mod A={type t=int;}:>{type t;}:>{type t;}:>{};", 1).count(2, 2);
    }

    private static void countOfSteps() {
        Bench b = new Bench().count(3, 0).good("val x=1;val y=2;", 2).count(3, 0).run(2, 1, 2).run(1, 0, 1).run(0, 0, 0).run(500, 1, 2);
        b.noProgram("val^");
        b.count(3, 2).run(-1, ILLEGAL_ARGUMENT, 2).good("", 0).count(3, 0).run(0, 1, 0);
    }
}
