/** The bounds of a RUN: limits from 0 to 500, STEPS, 8 calls under way and a ninth, wrapping INTS. */
public final class StepsEdgesTest {
    private static final String ILLEGAL_ARGUMENT = "IllegalArgumentException";

    public static void main(String[] args) {
        limitsThatAreRefused();
        noProgram();
        exactlyTheSteps();
        whatIsAStep();
        whatIsNone();
        fiveHundred();
        partsFromTheLeft();
        onlyTheOneThatIsMeant();
        eightCalls();
        eightApplications();
        callsWithinApplications();
        notWithinEachOther();
        ninthAndLimit();
        afterTheNinth();
        eachRunAnew();
        manyThatDoNotEnd();
        typesAreNotDone();
        wrapping();
        comparing();
        Bench.end();
    }

    private static void limitsThatAreRefused() {
        for (int limit : new int[] {-1, 501, 502, -2, -500, 1000, Integer.MIN_VALUE, Integer.MAX_VALUE}) {
            Stories.refusedAlways("run(" + limit + ")", f -> f.run(limit), ILLEGAL_ARGUMENT);
        }
    }

    private static void noProgram() {
        for (int limit : new int[] {0, 1, 499, 500}) {
            Stories.refused(Stories.withoutProgram(), "run(" + limit + ")", f -> f.run(limit), "IllegalStateException");
        }
    }

    /** A PROGRAM that needs so many STEPS, and the limits about that. */
    private static void steps(String text, int bindings, int need) {
        Bench b = new Bench().good(text, bindings);
        b.run(need, 1, need);
        if (need < 500) {
            b.run(need + 1, 1, need);
        }
        b.run(500, 1, need);
        if (need > 0) {
            b.run(need - 1, 0, need - 1).run(0, 0, 0).result("x", "IllegalStateException");
        }
    }

    private static void exactlyTheSteps() {
        steps("", 0, 0);
        steps("val x=1;", 1, 1);
        steps("val x=1;val y=2;", 2, 2);
        steps("val f=\\x:int.x;val x=f 1;", 2, 3);
    }

    private static void whatIsAStep() {
        steps("mod A={};", 1, 1);
        steps("mod A={val x=1;};", 1, 2);
        steps("mod A={val x=1;mod B={val y=1;};};", 1, 4);
        steps("mod A={};mod B=A;val x=1;", 3, 3);
        steps("val x=(\\x:int.x)1;", 1, 2);
        steps("val f=\\x:int.\\y:int.x;val x=f 1 2;", 2, 4);
        steps("mod F=fun(X:{})X;", 1, 1);
        steps("mod F=fun(X:{})X;mod A={};mod B=F(A);", 3, 4);
        // rows as often as they are done
        steps("mod F=fun(X:{}){val x=1;val y=2;};", 1, 1);
        steps("mod F=fun(X:{}){val x=1;val y=2;};mod A={};mod B=F(A);", 3, 6);
        steps("mod F=fun(X:{}){val x=1;val y=2;};mod A={};mod B=F(A);mod C=F(A);mod D=F(A);", 5, 14);
        steps("mod F=fun(X:{})fun(Y:{}){val x=1;};mod A={};mod G=F(A);mod B=G(A);", 4, 7);
    }

    private static void whatIsNone() {
        steps("type t=int;sig S={type t;val x:t;mod A:{};};", 2, 0);
        steps("mod A={type t=int;sig S={};};", 1, 1);
        steps("val x=if 1+2<3 then fst(1,2)else snd(3,4);", 1, 1);
        steps("val f=\\x:int.(\\y:int.y)x;", 1, 1);
        steps("mod A={}:>{}:>{};", 1, 1);
    }

    private static void fiveHundred() {
        // 4 BINDINGS; f is 1, g 9 and h 55 STEPS; h is called 9 times
        String text = "val f=\\x:int.x+1;val g=\\x:int.f(f(f(f(f(f(f(f x)))))));val h=\\x:int.g(g(g(g(g(g x)))));"
                + "val x=h(h(h(h(h(h(h(h(h 0))))))));";
        steps(text, 4, 499);
        steps(text + "val y=1;", 5, 500);
        steps(text + "type t=int;mod Y={};", 6, 500);
        Bench b = new Bench().good(text + "val y=1;val z=2;", 6).run(500, 0, 500).result("x", "IllegalStateException");
        b.run(499, 0, 499).run(0, 0, 0);
        b.good(text + "val y=f 1;", 5).run(500, 0, 500);
        b.good(text + "val y=1;", 5).run(500, 1, 500).result("x", 432).result("y", 1);
    }

    private static void partsFromTheLeft() {
        Bench b = new Bench();
        // the limit ends it before what stands to the right is done; all that is done is a STEP
        b.good("val f=\\x:int.x;val g=\\x:int.f(f x);val x=(f 1,g 2);", 3).run(500, 1, 7).run(6, 0, 6).run(3, 0, 3).run(2, 0, 2);
        b.good("val f=\\x:int.x;val x=f 1+f 2-f 3;val y=f 1<f 2;val z=fst(f 1,f 2);", 4).run(500, 1, 11).result("x", 0).result("y", 1).result("z", 1);
    }

    private static void onlyTheOneThatIsMeant() {
        Bench b = new Bench();
        String f = "val f=\\x:int.x;";
        b.good(f + "val x=if true then f 1 else f(f(f 2));", 2).run(500, 1, 3).result("x", 1);
        b.good(f + "val x=if false then f 1 else f(f(f 2));", 2).run(500, 1, 5).result("x", 2);
        b.good(f + "val x=if f 1==f 1 then 1 else f 2;", 2).run(500, 1, 4).result("x", 1);
        // a ninth call in the other one does not come under way
        b.good(f + "val f=\\x:int.f x;".repeat(8) + "val x=if true then 5 else f 1;", 10).run(500, 1, 10).result("x", 5);
        b.good(f + "val f=\\x:int.f x;".repeat(8) + "val x=if false then 5 else f 1;", 10).run(500, 0, 18);
    }

    /** So many calls within each other when x is done. */
    private static String calls(int count) {
        return "val f=\\x:int.x+1;" + "val f=\\x:int.f x;".repeat(count - 1) + "val x=f 1;";
    }

    private static void eightCalls() {
        for (int count = 1; count <= 8; count++) {
            new Bench().good(calls(count), count + 1).run(500, 1, 2 * count + 1).result("x", 2).result("f", "UnsupportedOperationException");
        }
        // nine BINDINGS and nine calls; the tenth BINDING is not done
        new Bench().good(calls(9), 10).run(500, 0, 18).result("x", "IllegalStateException").result("f", "IllegalStateException");
        new Bench().good(calls(10), 11).run(500, 0, 19).result("x", "IllegalStateException");
        new Bench().good(calls(9).replace("val x=f 1;", "val x=1+fst(f 1,2);"), 10).run(500, 0, 18);
        new Bench().good(calls(9).replace("val x=f 1;", "val x=(f 1,f 2);"), 10).run(500, 0, 18);
    }

    private static String applications(int count) {
        return "sig S={val x:int;};mod F=fun(X:S){val x=X.x+1;};" + "mod F=fun(X:S)F(X);".repeat(count - 1) + "mod A={val x=1;};mod B=F(A);";
    }

    private static void eightApplications() {
        for (int count = 1; count <= 8; count++) {
            // F, A.x and A, then each F(A), x and B
            new Bench().good(applications(count), count + 3).run(500, 1, 2 * count + 4).result("B.x", 2);
        }
        new Bench().good(applications(9), 12).run(500, 0, 20).result("A.x", "IllegalStateException");
    }

    private static void callsWithinApplications() {
        String f = "val f=\\x:int.x+1;";
        for (int count = 1; count <= 8; count++) {
            String text = f + applications(count).replace("X.x+1", "f X.x");
            if (count <= 7) {
                new Bench().good(text, count + 4).run(500, 1, 2 * count + 6).result("B.x", 2);
            } else {
                // f, eight FUNCTORS, A.x, A, eight F(A) and the call, which is the ninth
                new Bench().good(text, count + 4).run(500, 0, 20);
            }
        }
        // four calls in four F(A), and one more
        String calls = "val f=\\x:int.x;" + "val f=\\x:int.f x;".repeat(3);
        new Bench().good(calls + applications(4).replace("X.x+1", "f X.x"), 11).run(500, 1, 20).result("B.x", 1);
        new Bench().good(calls + "val f=\\x:int.f x;" + applications(4).replace("X.x+1", "f X.x"), 12).run(500, 0, 20);
    }

    private static void notWithinEachOther() {
        Bench b = new Bench();
        // an argument is done before the call is under way
        b.good("val f=\\x:int.x+1;val x=f(f(f(f(f(f(f(f(f 0))))))));", 2).run(500, 1, 11).result("x", 9);
        b.good(calls(8).replace("val x=f 1;", "val x=f(f 1)+f(f 1);val y=f 5;"), 10).run(500, 1, 50).result("x", 6).result("y", 6);
        // a FUNCTION that has come out of a call is called when that is done
        b.good("val f=\\a:int.\\b:int.\\c:int.\\d:int.\\e:int.\\f:int.\\g:int.a+g;val x=f 1 2 3 4 5 6 7;", 2).run(500, 1, 9).result("x", 8);
        b.good("mod F=fun(X:{})X;mod A={};" + "mod A=F(A);".repeat(12), 14).run(500, 1, 26);
        // a MODULE in rows is no call
        b.good(calls(8).replace("val x=f 1;", "mod A={mod A={mod A={mod A={mod A={mod A={val x=f 1;};};};};};};"), 9).run(500, 1, 23);
    }

    private static void ninthAndLimit() {
        Bench b = new Bench().good(calls(9), 10);
        b.run(500, 0, 18).run(19, 0, 18).run(18, 0, 18).run(17, 0, 17).run(16, 0, 16).run(9, 0, 9).run(0, 0, 0);
        Bench c = new Bench().good(calls(8), 9);
        c.run(17, 1, 17).run(16, 0, 16);
    }

    private static void afterTheNinth() {
        Bench b = new Bench().good(calls(9), 10).run(500, 0, 18).run(500, 0, 18).run(500, 0, 18);
        b.result("x", "IllegalStateException").look(0, "x", 1).count(1, 10);
        b.good(calls(8), 9).run(500, 1, 17).result("x", 2);
        b.good(calls(9), 10).run(500, 0, 18).give(calls(8)).run(500, 0, 18);
    }

    private static void eachRunAnew() {
        Bench b = new Bench().good("val f=\\x:int.x;val x=f 4;mod A={val y=(x,x);};", 3);
        for (int i = 0; i < 20; i++) {
            b.run(500, 1, 5).result("x", 4).run(2, 0, 2).result("x", "IllegalStateException");
        }
        b.run(5, 1, 5).result("x", 4).result("A.y", "UnsupportedOperationException");
    }

    /** What a RUN leaves behind when the limit ends it in the midst does not pile up. */
    private static void manyThatDoNotEnd() {
        Bench b = new Bench().good("val f=\\x:int.x;val p=(1,(2,(3,(4,(5,f(f(f 7)))))));val x=fst p;", 3);
        for (int i = 0; i < 110; i++) {
            Bench.due("run(3)", b.forge.run(3), 0);
        }
        b.run(500, 1, 6).result("x", 1);
    }

    private static void typesAreNotDone() {
        // a RUN has nothing to do with TYPES, however often it passes by
        String t = "A.B.t*A.B.t*A.B.t*A.B.t*A.B.t*A.B.t*A.B.t*A.B.t";
        new Bench().good("mod A={mod B={type t=int;};};val f=\\x:int.fst(x+1,\\y:" + t + ".1);val g=\\x:int.f(f(f(f(f(f(f(f x)))))));"
                + "val x=g(g(g(g(g(g(g(g(g 0))))))));", 4).run(500, 1, 5 + 9 * 9).result("x", 72);
        // PATHS in TYPES and SIGNS within rows that are done
        String hidden = "mod T={type t=int;mod U={type u=bool;};};";
        Bench b = new Bench();
        b.good(hidden + "mod A={val x=5;type u=T.t*T.U.u;val y=6;};val z=A.x-A.y;", 3).run(500, 1, 6).result("A.x", 5).result("A.y", 6).result("z", -1);
        b.good(hidden + "mod A={val w=4;sig S={val x:T.t;};mod B={val x=5;}:>S;val y=w;};val z=A.y;", 3).run(500, 1, 8);
        b.result("A.w", 4).result("A.B.x", 5).result("A.y", 4).result("z", 4);
        b.good(hidden + "mod A={val w=4;mod B={val x=5;}:>{val x:T.t;}:>{val x:T.t;};};", 2).run(500, 1, 6);
        b.result("A.w", 4).result("A.B.x", 5);
        b.good(hidden + "mod A={val w=4;mod F=fun(X:{val x:T.t;}){val y=X.x;type v=T.U.u;};val x=7;mod G=F;};mod F=A.F;mod B=F(A);", 4).run(500, 1, 11);
        b.result("A.w", 4).result("A.x", 7).result("B.y", 7);
        b.good(hidden + "mod A={val w=4;val f=\\x:T.t.\\y:T.U.u.if y then x else w;val z=f 3 false+f 2 true;};val x=A.f 9 true;", 3).run(500, 1, 13);
        b.result("A.z", 6).result("A.w", 4).result("x", 9);
    }

    private static void wrapping() {
        Bench b = new Bench();
        String doubles = "val d=\\x:int.x+x;val q=\\x:int.d(d(d(d x)));";
        // 2 to the 31st wraps to the least INT
        b.good(doubles + "val m=q(q(q(q(q(q(q 8))))));val n=m-1;val k=n+1;val z=m+m;val a=0-m;val o=n+n;val p=0-n;", 9).run(500, 1, 44);
        b.result("m", Integer.MIN_VALUE).result("n", Integer.MAX_VALUE).result("k", Integer.MIN_VALUE).result("z", 0);
        b.result("a", Integer.MIN_VALUE).result("o", -2).result("p", -Integer.MAX_VALUE);
        b.good(doubles + "val h=q(q(q(q(q(q(q 4))))));val n=h-1+h;val m=0-n-1;val k=m-1;val z=n+1==m;", 7).run(500, 1, 42);
        b.result("h", 1 << 30).result("n", Integer.MAX_VALUE).result("m", Integer.MIN_VALUE).result("k", Integer.MAX_VALUE).result("z", 1);
        b.good("val x=9999-9999;val y=0-9999;val z=0-1;val w=0-9999-9999;", 4).run(500, 1, 4);
        b.result("x", 0).result("y", -9999).result("z", -1).result("w", -19998);
    }

    private static void comparing() {
        Bench b = new Bench();
        b.good("val a=1<2;val b=2<2;val c=3<2;val d=1==2;val e=2==2;val f=3==2;val g=0-1<0;val h=0<0-1;", 8).run(500, 1, 8);
        b.result("a", 1).result("b", 0).result("c", 0).result("d", 0).result("e", 1).result("f", 0).result("g", 1).result("h", 0);
        // the least is less than the greatest
        b.good("val d=\\x:int.x+x;val q=\\x:int.d(d(d(d x)));val m=q(q(q(q(q(q(q 8))))));val n=m-1;val a=m<n;val b=n<m;val c=m<0;val e=0<n;", 8);
        b.run(500, 1, 43).result("a", 1).result("b", 0).result("c", 1).result("e", 1);
    }
}
